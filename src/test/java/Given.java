/** What tests begin with: small pipelines, brought to where a test wants them. */
abstract class Given {
    static final int NONE = JobStates.NONE;
    static final int[] FAR_OUT = {-2, 1000000, Integer.MIN_VALUE, Integer.MAX_VALUE};

    static final int WAITS = 0;
    static final int READY = 1;
    static final int RUNS = 2;
    static final int DONE = 3;
    static final int FAILED = 4;
    static final int SKIPPED = 5;
    static final int CANCELLED = 6;

    static JobStates withJobs(int count) {
        JobStates x = new JobStates();
        for (int i = 0; i < count; i++) {
            x.job(0, 0, 0, false, false);
        }
        return x;
    }

    static JobStates withRunners(JobStates x, int count) {
        for (int i = 0; i < count; i++) {
            x.runner(0);
        }
        return x;
    }

    /** One job, triggered once by person 0 in no group, with one runner. */
    static JobStates oneOf(int limit, int retries, boolean always, boolean approval) {
        JobStates x = new JobStates();
        x.job(0, limit, retries, always, approval);
        x.runner(0);
        x.trigger(0, NONE);
        return x;
    }

    /** The same, taken by its runner. */
    static JobStates oneThatRuns(int limit, int retries) {
        JobStates x = oneOf(limit, retries, false, false);
        x.take(0);
        return x;
    }

    static void takeAndEnd(JobStates x, int runner, boolean well) {
        x.take(runner);
        x.end(runner, well, 0);
    }

    /** Two jobs, the second needing the first, with one runner; no run as yet. */
    static JobStates pair(boolean approval) {
        JobStates x = withJobs(1);
        x.job(0, 0, 0, false, approval);
        x.needs(1, 0);
        x.runner(0);
        return x;
    }

    /** Triggers run 0 of a pair by person 0, and brings its second job to a state (approved by 1 and 2). */
    static JobStates withSecondAt(int state, JobStates pair) {
        pair.trigger(0, NONE);
        pair.approve(0, 1, 1);
        pair.approve(0, 1, 2);
        if (state == CANCELLED) {
            pair.cancel(0);
        } else if (state != WAITS) {
            takeAndEnd(pair, 0, state != SKIPPED);
        }
        if (state == RUNS) {
            pair.take(0);
        } else if (state == DONE || state == FAILED) {
            takeAndEnd(pair, 0, state == DONE);
        }
        return pair;
    }
}
