/** Tells answers that are not due, and ends a test with exit code 1 when there was one. */
final class Due {
    interface Answer {
        long get();
    }

    private int wrong = 0;
    private int looked = 0;

    void answers(String call, long want, Answer answer) {
        tell(call, Long.toString(want), outcome(answer));
    }

    void yes(String call, boolean got) {
        tell(call, "true", Boolean.toString(got));
    }

    void done(String call, Runnable run) {
        tell(call, "done", outcome(run));
    }

    void unknown(String call, Runnable run) {
        refused(call, "IllegalArgumentException", run);
    }

    void outside(String call, Runnable run) {
        refused(call, "IndexOutOfBoundsException", run);
    }

    void notNow(String call, Runnable run) {
        refused(call, "IllegalStateException", run);
    }

    void noRoom(String call, Runnable run) {
        refused(call, "UnsupportedOperationException", run);
    }

    void same(String call, String want, String got) {
        tell(call, want, got);
    }

    void end() {
        if (wrong > 0 || looked == 0) {
            System.out.println(wrong + " of " + looked + " answers are wrong");
            System.exit(1);
        }
    }

    static String outcome(Answer answer) {
        try {
            return Long.toString(answer.get());
        } catch (RuntimeException e) {
            return "throws " + e.getClass().getSimpleName();
        }
    }

    static String outcome(Runnable run) {
        try {
            run.run();
            return "done";
        } catch (RuntimeException e) {
            return "throws " + e.getClass().getSimpleName();
        }
    }

    private void refused(String call, String exception, Runnable run) {
        tell(call, "throws " + exception, outcome(run));
    }

    private void tell(String call, String want, String got) {
        looked++;
        if (!want.equals(got)) {
            wrong++;
            if (wrong <= 20) {
                System.out.println(call + ": " + got + ", due is " + want);
            }
        }
    }
}
