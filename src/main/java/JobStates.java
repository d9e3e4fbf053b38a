/**
 * Runs of a pipeline: its jobs wait, are given to runners, end, and are tried again.
 * What each call answers is said in the document; README.md shows how to use the class.
 */
public final class JobStates {
    public static final int NONE = -1;

    private static final int MOST_JOBS = 12;
    private static final int MOST_RUNS = 10;
    private static final int MOST_RUNNERS = 6;
    private static final int MOST_RETRIES = 3;
    private static final int MOST_LOST_TIME = 100;
    private static final int FIRST_LOST_TIME = 10;
    private static final int MOST_TICKS = 1000;
    private static final int PERSONS = 8;
    private static final int GROUPS = 4;
    private static final int LABEL_BITS = 0xFF;
    private static final int APPROVALS_WANTED = 2;

    // The ends come last, so that one comparison tells them from the rest.
    private static final int WAITS = 0;
    private static final int READY = 1;
    private static final int RUNS = 2;
    private static final int DONE = 3;
    private static final int FAILED = 4;
    private static final int SKIPPED = 5;
    private static final int CANCELLED = 6;

    private static final int NOT_OVER = 0;
    private static final int WENT_WELL = 1;
    private static final int HAS_FAILED = 2;
    private static final int WAS_CANCELLED = 3;

    private static final int APPROVAL_TAKEN = 1;
    private static final int APPROVAL_KNOWN = 0;
    private static final int APPROVAL_IMPOSSIBLE = -1;
    private static final int APPROVAL_OF_OWN_RUN = -2;

    private final Job[] jobs = new Job[MOST_JOBS];
    private final Runner[] runners = new Runner[MOST_RUNNERS];
    private final Run[] runs = new Run[MOST_RUNS];
    private int jobCount = 0;
    private int runnerCount = 0;
    private int runCount = 0;
    private int clock = 0;
    private int lostTime = FIRST_LOST_TIME;

    public JobStates() {
    }

    public int job(int labels, int limit, int retries, boolean always, boolean approval) {
        if (jobCount >= MOST_JOBS || runCount > 0) {
            return NONE;
        }
        if (limit < 0 || retries < 0 || retries > MOST_RETRIES) {
            return NONE;
        }
        int number = jobCount;
        jobs[number] = new Job(labels & LABEL_BITS, limit, retries, always, approval);
        jobCount++;
        return number;
    }

    public boolean needs(int job, int earlier) {
        if (runCount > 0 || earlier < 0 || earlier >= job || job >= jobCount) {
            return false;
        }
        Job later = jobs[job];
        if (later.isNeeding(earlier)) {
            return false;
        }
        later.needed |= 1 << earlier;
        return true;
    }

    public int runner(int labels) {
        if (runnerCount >= MOST_RUNNERS) {
            return NONE;
        }
        int number = runnerCount;
        runners[number] = new Runner(number, labels & LABEL_BITS, clock);
        runnerCount++;
        return number;
    }

    public boolean lost(int time) {
        if (time < 1 || time > MOST_LOST_TIME) {
            return false;
        }
        lostTime = time;
        return true;
    }

    public int trigger(int person, int group) {
        if (runCount >= MOST_RUNS || !isPerson(person)) {
            return NONE;
        }
        if (group != NONE && (group < 0 || group >= GROUPS)) {
            return NONE;
        }
        if (group != NONE) {
            cancelGroup(group);
        }
        int number = runCount;
        runs[number] = newRun(number, person, group);
        runCount++;
        settle();
        return number;
    }

    public int approve(int run, int job, int person) {
        Task task = findTask(run, job);
        if (task == null || !isPerson(person) || !task.job.approval || task.isEnded()) {
            return APPROVAL_IMPOSSIBLE;
        }
        if (person == task.run.person) {
            return APPROVAL_OF_OWN_RUN;
        }
        int bit = 1 << person;
        if ((task.approvals & bit) != 0) {
            return APPROVAL_KNOWN;
        }
        task.approvals |= bit;
        settle();
        return APPROVAL_TAKEN;
    }

    public int take(int runner) {
        Runner taker = findRunner(runner);
        if (taker == null || taker.task != null) {
            return NONE;
        }
        Task task = nextFor(taker);
        if (task == null) {
            return NONE;
        }
        task.startOn(taker, clock);
        return task.place();
    }

    public boolean beat(int runner) {
        Runner beating = findRunner(runner);
        if (beating == null || beating.task == null) {
            return false;
        }
        beating.beat = clock;
        return true;
    }

    public boolean end(int runner, boolean well, int artefact) {
        Runner telling = findRunner(runner);
        if (telling == null) {
            return false;
        }
        Task task = telling.task;
        if (task == null) {
            return false;
        }
        if (well) {
            task.finish(artefact);
        } else {
            task.failTry();
        }
        settle();
        return true;
    }

    public int tick(int n) {
        if (n < 0 || n > MOST_TICKS) {
            return NONE;
        }
        int target = clock + n;
        // No runner gets a job while time goes on: once none has any, the rest of the way changes nothing.
        for (int step = 0; step < n && isAnyRunnerBusy(); step++) {
            clock++;
            checkRunners();
        }
        clock = target;
        settle();
        return clock;
    }

    public boolean cancel(int run) {
        Run found = findRun(run);
        if (found == null || found.cancelled || found.isOver()) {
            return false;
        }
        found.cancelAll();
        settle();
        return true;
    }

    public int again(int run) {
        Run found = findRun(run);
        if (found == null || found.cancelled || !found.isOver()) {
            return NONE;
        }
        int count = found.redoFailed();
        settle();
        return count;
    }

    public int state(int run, int job) {
        Task task = findTask(run, job);
        return task == null ? NONE : task.state;
    }

    public int about(int run, int job, int what) {
        Task task = findTask(run, job);
        if (task == null) {
            return NONE;
        }
        switch (what) {
            case 0:
                return task.runnerNumber();
            case 1:
                return task.triesBegun;
            case 2:
                return task.timesLost;
            case 3:
                return task.artefact;
            case 4:
                return task.run.artefactsFor(task.job);
            default:
                return 0;
        }
    }

    public int verdict(int run) {
        Run found = findRun(run);
        return found == null ? NONE : found.judge();
    }

    public int has(int runner) {
        Runner found = findRunner(runner);
        if (found == null) {
            return NONE;
        }
        Task task = found.task;
        return task == null ? NONE : task.place();
    }

    private static boolean isPerson(int person) {
        return person >= 0 && person < PERSONS;
    }

    private Run findRun(int run) {
        return run >= 0 && run < runCount ? runs[run] : null;
    }

    private Task findTask(int run, int job) {
        Run found = findRun(run);
        if (found == null || job < 0 || job >= found.tasks.length) {
            return null;
        }
        return found.tasks[job];
    }

    private Runner findRunner(int runner) {
        return runner >= 0 && runner < runnerCount ? runners[runner] : null;
    }

    private Run newRun(int number, int person, int group) {
        Run run = new Run(number, person, group, jobCount);
        for (int i = 0; i < jobCount; i++) {
            run.tasks[i] = new Task(run, i, jobs[i]);
        }
        return run;
    }

    private void cancelGroup(int group) {
        for (int i = 0; i < runCount; i++) {
            if (runs[i].group == group && !runs[i].isOver()) {
                runs[i].cancelAll();
            }
        }
    }

    private void settle() {
        for (int i = 0; i < runCount; i++) {
            runs[i].settleTasks();
        }
    }

    private Task nextFor(Runner runner) {
        Task next = null;
        for (int i = 0; i < runCount; i++) {
            Task task = runs[i].firstReadyFor(runner);
            if (task != null && (next == null || isServedBefore(task.run.person, next.run.person))) {
                next = task;
            }
        }
        return next;
    }

    private boolean isServedBefore(int person, int other) {
        int mine = runningOf(person);
        int theirs = runningOf(other);
        return mine < theirs || (mine == theirs && person < other);
    }

    private int runningOf(int person) {
        int count = 0;
        for (int i = 0; i < runnerCount; i++) {
            Task task = runners[i].task;
            if (task != null && task.run.person == person) {
                count++;
            }
        }
        return count;
    }

    private boolean isAnyRunnerBusy() {
        for (int i = 0; i < runnerCount; i++) {
            if (runners[i].task != null) {
                return true;
            }
        }
        return false;
    }

    // What happens to a job that runs hangs on itself and its runner alone,
    // so going by runners answers the same as going by runs and jobs.
    private void checkRunners() {
        for (int i = 0; i < runnerCount; i++) {
            Task task = runners[i].task;
            if (task != null) {
                if (clock - runners[i].beat > lostTime) {
                    task.loseRunner();
                } else if (task.isPastLimit(clock)) {
                    task.failTry();
                }
            }
        }
    }

    /** A job of the pipeline, as every run gets it. */
    private static final class Job {
        final int labels;
        final int limit;
        final int retries;
        final boolean always;
        final boolean approval;
        int needed = 0;

        Job(int labels, int limit, int retries, boolean always, boolean approval) {
            this.labels = labels;
            this.limit = limit;
            this.retries = retries;
            this.always = always;
            this.approval = approval;
        }

        boolean isNeeding(int number) {
            return (needed >> number & 1) != 0;
        }
    }

    /** A runner, with the run's job that it has, if any. */
    private static final class Runner {
        final int number;
        final int labels;
        int beat;
        Task task = null;

        Runner(int number, int labels, int beat) {
            this.number = number;
            this.labels = labels;
            this.beat = beat;
        }
    }

    /** A run, with one task for each job of the pipeline. */
    private static final class Run {
        final int number;
        final int person;
        final int group;
        final Task[] tasks;
        boolean cancelled = false;

        Run(int number, int person, int group, int jobCount) {
            this.number = number;
            this.person = person;
            this.group = group;
            this.tasks = new Task[jobCount];
        }

        boolean isOver() {
            for (int i = 0; i < tasks.length; i++) {
                if (!tasks[i].isEnded()) {
                    return false;
                }
            }
            return true;
        }

        boolean isAnyFailed() {
            for (int i = 0; i < tasks.length; i++) {
                if (tasks[i].state == FAILED) {
                    return true;
                }
            }
            return false;
        }

        int judge() {
            if (!isOver()) {
                return NOT_OVER;
            }
            if (cancelled) {
                return WAS_CANCELLED;
            }
            return isAnyFailed() ? HAS_FAILED : WENT_WELL;
        }

        void cancelAll() {
            cancelled = true;
            for (int i = 0; i < tasks.length; i++) {
                if (!tasks[i].job.always && !tasks[i].isEnded()) {
                    tasks[i].leaveRunner();
                    tasks[i].state = CANCELLED;
                }
            }
        }

        int redoFailed() {
            int count = 0;
            for (int i = 0; i < tasks.length; i++) {
                if (tasks[i].state == FAILED || tasks[i].state == SKIPPED) {
                    tasks[i].waitAgain();
                    count++;
                }
            }
            return count;
        }

        // One pass is enough: a job needs only earlier ones, which are settled before it.
        void settleTasks() {
            for (int i = 0; i < tasks.length; i++) {
                if (tasks[i].state == WAITS) {
                    tasks[i].state = stateAfterWaiting(tasks[i]);
                }
            }
        }

        // What waits in a cancelled run is an ALWAYS job (cancelAll has ended the others),
        // so being cancelled need not be looked at here.
        int stateAfterWaiting(Task task) {
            boolean allEnded = true;
            boolean allWell = true;
            for (int i = 0; i < tasks.length; i++) {
                if (task.job.isNeeding(i)) {
                    allEnded = allEnded && tasks[i].isEnded();
                    allWell = allWell && (tasks[i].state == DONE || !tasks[i].isEnded());
                }
            }
            if (!allWell && !task.job.always) {
                return SKIPPED;
            }
            return allEnded && task.isFreeToRun() ? READY : WAITS;
        }

        Task firstReadyFor(Runner runner) {
            for (int i = 0; i < tasks.length; i++) {
                if (tasks[i].state == READY && (tasks[i].job.labels & ~runner.labels) == 0) {
                    return tasks[i];
                }
            }
            return null;
        }

        int artefactsFor(Job job) {
            int all = 0;
            for (int i = 0; i < tasks.length; i++) {
                if (job.isNeeding(i)) {
                    all ^= tasks[i].artefact;
                }
            }
            return all;
        }
    }

    /** A run's job: what has become of a job of the pipeline in one run. */
    private static final class Task {
        final Run run;
        final int number;
        final Job job;
        int state = WAITS;
        Runner runner = null;
        int startedAt = 0;
        int approvals = 0;
        int artefact = 0;
        int triesBegun = 0;
        int timesLost = 0;
        int failedTriesSinceWaiting = 0;
        boolean lostSinceWaiting = false;

        Task(Run run, int number, Job job) {
            this.run = run;
            this.number = number;
            this.job = job;
        }

        int place() {
            return MOST_JOBS * run.number + number;
        }

        boolean isEnded() {
            return state >= DONE;
        }

        boolean isFreeToRun() {
            return !job.approval || Integer.bitCount(approvals) >= APPROVALS_WANTED;
        }

        boolean isPastLimit(int clock) {
            return job.limit > 0 && clock - startedAt >= job.limit;
        }

        int runnerNumber() {
            return runner == null ? NONE : runner.number;
        }

        void startOn(Runner taker, int clock) {
            state = RUNS;
            startedAt = clock;
            triesBegun++;
            runner = taker;
            taker.task = this;
            taker.beat = clock;
        }

        void leaveRunner() {
            if (runner != null) {
                runner.task = null;
                runner = null;
            }
        }

        void finish(int made) {
            leaveRunner();
            artefact = made;
            state = DONE;
        }

        void failTry() {
            leaveRunner();
            failedTriesSinceWaiting++;
            state = failedTriesSinceWaiting <= job.retries ? READY : FAILED;
        }

        // Being lost is not a try that failed: it has one second chance of its own, apart from RETRIES.
        void loseRunner() {
            leaveRunner();
            timesLost++;
            state = lostSinceWaiting ? FAILED : READY;
            lostSinceWaiting = true;
        }

        void waitAgain() {
            state = WAITS;
            failedTriesSinceWaiting = 0;
            lostSinceWaiting = false;
        }
    }
}
