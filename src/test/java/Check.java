/** Counts the answers that are not as due; a test ends with exit code 1 if there was one. */
final class Check {
    private static int wrong = 0;

    private Check() {
    }

    static void due(String call, long got, long due) {
        if (got != due) {
            report(call + " answered " + got + ", due is " + due);
        }
    }

    static void due(String call, boolean got, boolean due) {
        if (got != due) {
            report(call + " answered " + got + ", due is " + due);
        }
    }

    static void due(String call, String got, String due) {
        if (!got.equals(due)) {
            report(call + "\n  answered " + got + "\n  due is   " + due);
        }
    }

    static void outside(String call, Runnable run) {
        thrown(call, IndexOutOfBoundsException.class, run);
    }

    static void badArgument(String call, Runnable run) {
        thrown(call, IllegalArgumentException.class, run);
    }

    static void badState(String call, Runnable run) {
        thrown(call, IllegalStateException.class, run);
    }

    static void thrown(String call, Class<? extends RuntimeException> due, Runnable run) {
        try {
            run.run();
        } catch (RuntimeException e) {
            if (e.getClass() != due) {
                report(call + " threw " + e + ", due is " + due.getSimpleName());
            }
            return;
        }
        report(call + " threw nothing, due is " + due.getSimpleName());
    }

    static void report(String text) {
        wrong++;
        System.out.println(text);
    }

    /** Looks at all six parts of a packet. */
    static void packet(LoanArrows x, int i, int... parts) {
        for (int what = 0; what < parts.length; what++) {
            due("packet(" + i + ", " + what + ")", x.packet(i, what), parts[what]);
        }
    }

    /** Looks at arrow, follower, state, readers in the queue and the reader lent to. */
    static void desk(LoanArrows x, int library, int copy, int... facts) {
        for (int what = 0; what < facts.length; what++) {
            due("of(" + library + ", " + copy + ", " + what + ")", x.of(library, copy, what), facts[what]);
        }
    }

    static void end() {
        System.out.println(wrong == 0 ? "all answers are as due" : wrong + " answers are not as due");
        if (wrong != 0) {
            System.exit(1);
        }
    }
}
