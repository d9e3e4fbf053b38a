import java.util.ArrayList;
import java.util.HashSet;
import java.util.List;
import java.util.Set;

/**
 * The document's words as plainly as they can be written, one rule after another and with no
 * thought for speed, so that JobStates can be held against it.
 */
final class Model {
    static final class Job {
        int labels;
        int limit;
        int retries;
        boolean always;
        boolean approval;
        final Set<Integer> needs = new HashSet<>();
    }

    static final class RunJob {
        int state = 0;
        int runner = -1;
        int since = 0;
        int begun = 0;
        int lostInAll = 0;
        int lostNow = 0;
        int failedNow = 0;
        int artefact = 0;
        final Set<Integer> approvers = new HashSet<>();
    }

    static final class Run {
        int person;
        int group;
        boolean cancelled = false;
        final List<RunJob> jobs = new ArrayList<>();
    }

    static final class Runner {
        int labels;
        int beat;
    }

    private final List<Job> jobs = new ArrayList<>();
    private final List<Run> runs = new ArrayList<>();
    private final List<Runner> runners = new ArrayList<>();
    private int clock = 0;
    private int lost = 10;

    int job(int labels, int limit, int retries, boolean always, boolean approval) {
        if (jobs.size() == 12 || !runs.isEmpty() || limit < 0 || retries < 0 || retries > 3) {
            return -1;
        }
        Job made = new Job();
        made.labels = labels;
        made.limit = limit;
        made.retries = retries;
        made.always = always;
        made.approval = approval;
        jobs.add(made);
        return jobs.size() - 1;
    }

    boolean needs(int job, int earlier) {
        boolean there = job >= 0 && job < jobs.size() && earlier >= 0 && earlier < job;
        return there && runs.isEmpty() && jobs.get(job).needs.add(earlier);
    }

    int runner(int labels) {
        if (runners.size() == 6) {
            return -1;
        }
        Runner made = new Runner();
        made.labels = labels;
        made.beat = clock;
        runners.add(made);
        return runners.size() - 1;
    }

    boolean lost(int time) {
        boolean right = 1 <= time && time <= 100;
        lost = right ? time : lost;
        return right;
    }

    int trigger(int person, int group) {
        if (runs.size() == 10 || person < 0 || person > 7 || group < -1 || group > 3) {
            return -1;
        }
        for (Run earlier : runs) {
            if (group != -1 && earlier.group == group && !isOver(earlier)) {
                cancelRun(earlier);
            }
        }
        Run made = new Run();
        made.person = person;
        made.group = group;
        for (int i = 0; i < jobs.size(); i++) {
            made.jobs.add(new RunJob());
        }
        runs.add(made);
        afterCall();
        return runs.size() - 1;
    }

    int approve(int run, int job, int person) {
        if (!isThere(run, job) || person < 0 || person > 7) {
            return -1;
        }
        RunJob its = runs.get(run).jobs.get(job);
        if (!jobs.get(job).approval || isEnd(its.state)) {
            return -1;
        }
        if (runs.get(run).person == person) {
            return -2;
        }
        boolean first = its.approvers.add(person);
        afterCall();
        return first ? 1 : 0;
    }

    int take(int runner) {
        if (!isRunner(runner) || has(runner) != -1) {
            return -1;
        }
        int best = -1;
        for (int place = 0; place < 12 * runs.size(); place++) {
            boolean fits = isThere(place / 12, place % 12) && isReadyFor(place / 12, place % 12, runner);
            if (fits && (best == -1 || isBefore(place, best))) {
                best = place;
            }
        }
        if (best != -1) {
            RunJob its = runs.get(best / 12).jobs.get(best % 12);
            its.state = 2;
            its.runner = runner;
            its.since = clock;
            its.begun++;
            runners.get(runner).beat = clock;
        }
        return best;
    }

    private boolean isReadyFor(int run, int job, int runner) {
        for (int label = 0; label <= 7; label++) {
            boolean wanted = (jobs.get(job).labels >>> label) % 2 != 0;
            boolean had = (runners.get(runner).labels >>> label) % 2 != 0;
            if (wanted && !had) {
                return false;
            }
        }
        return runs.get(run).jobs.get(job).state == 1;
    }

    private boolean isBefore(int place, int other) {
        int person = runs.get(place / 12).person;
        int otherPerson = runs.get(other / 12).person;
        int share = share(person);
        int otherShare = share(otherPerson);
        if (share != otherShare) {
            return share < otherShare;
        }
        return person != otherPerson ? person < otherPerson : place < other;
    }

    private int share(int person) {
        int count = 0;
        for (Run run : runs) {
            for (RunJob its : run.jobs) {
                count += run.person == person && its.state == 2 ? 1 : 0;
            }
        }
        return count;
    }

    boolean beat(int runner) {
        if (has(runner) == -1) {
            return false;
        }
        runners.get(runner).beat = clock;
        return true;
    }

    boolean end(int runner, boolean well, int artefact) {
        int place = has(runner);
        if (place == -1) {
            return false;
        }
        RunJob its = runs.get(place / 12).jobs.get(place % 12);
        if (well) {
            its.runner = -1;
            its.state = 3;
            its.artefact = artefact;
        } else {
            failTry(its, jobs.get(place % 12));
        }
        afterCall();
        return true;
    }

    private static void failTry(RunJob its, Job job) {
        its.runner = -1;
        its.failedNow++;
        its.state = its.failedNow > job.retries ? 4 : 1;
    }

    int tick(int n) {
        if (n < 0 || n > 1000) {
            return -1;
        }
        for (int i = 0; i < n; i++) {
            clock++;
            for (Run run : runs) {
                for (int job = 0; job < run.jobs.size(); job++) {
                    if (run.jobs.get(job).state == 2) {
                        lookAtRunning(run.jobs.get(job), jobs.get(job));
                    }
                }
            }
        }
        afterCall();
        return clock;
    }

    private void lookAtRunning(RunJob its, Job job) {
        if (clock - runners.get(its.runner).beat > lost) {
            its.runner = -1;
            its.lostInAll++;
            its.lostNow++;
            its.state = its.lostNow == 1 ? 1 : 4;
        } else if (job.limit != 0 && clock - its.since >= job.limit) {
            failTry(its, job);
        }
    }

    boolean cancel(int run) {
        if (run < 0 || run >= runs.size() || runs.get(run).cancelled || isOver(runs.get(run))) {
            return false;
        }
        cancelRun(runs.get(run));
        afterCall();
        return true;
    }

    private void cancelRun(Run run) {
        run.cancelled = true;
        for (int job = 0; job < run.jobs.size(); job++) {
            RunJob its = run.jobs.get(job);
            if (its.state <= 2 && !jobs.get(job).always) {
                its.runner = -1;
                its.state = 6;
            }
        }
    }

    int again(int run) {
        if (run < 0 || run >= runs.size() || runs.get(run).cancelled || !isOver(runs.get(run))) {
            return -1;
        }
        int count = 0;
        for (RunJob its : runs.get(run).jobs) {
            if (its.state == 4 || its.state == 5) {
                its.state = 0;
                its.lostNow = 0;
                its.failedNow = 0;
                count++;
            }
        }
        afterCall();
        return count;
    }

    int state(int run, int job) {
        return isThere(run, job) ? runs.get(run).jobs.get(job).state : -1;
    }

    int about(int run, int job, int what) {
        if (!isThere(run, job)) {
            return -1;
        }
        RunJob its = runs.get(run).jobs.get(job);
        int needed = 0;
        for (int earlier : jobs.get(job).needs) {
            needed ^= runs.get(run).jobs.get(earlier).artefact;
        }
        int[] answers = {its.runner, its.begun, its.lostInAll, its.artefact, needed};
        return what >= 0 && what <= 4 ? answers[what] : 0;
    }

    int verdict(int run) {
        if (run < 0 || run >= runs.size()) {
            return -1;
        }
        if (!isOver(runs.get(run))) {
            return 0;
        }
        boolean failed = false;
        for (RunJob its : runs.get(run).jobs) {
            failed |= its.state == 4;
        }
        return runs.get(run).cancelled ? 3 : failed ? 2 : 1;
    }

    int has(int runner) {
        for (int run = 0; run < runs.size() && isRunner(runner); run++) {
            for (int job = 0; job < jobs.size(); job++) {
                if (runs.get(run).jobs.get(job).runner == runner) {
                    return 12 * run + job;
                }
            }
        }
        return -1;
    }

    private boolean isThere(int run, int job) {
        return run >= 0 && run < runs.size() && job >= 0 && job < jobs.size();
    }

    private boolean isRunner(int runner) {
        return runner >= 0 && runner < runners.size();
    }

    private static boolean isEnd(int state) {
        return state == 3 || state == 4 || state == 5 || state == 6;
    }

    private static boolean isOver(Run run) {
        for (RunJob its : run.jobs) {
            if (!isEnd(its.state)) {
                return false;
            }
        }
        return true;
    }

    private void afterCall() {
        for (Run run : runs) {
            for (int job = 0; job < run.jobs.size(); job++) {
                if (run.jobs.get(job).state == 0) {
                    lookAtWaiting(run, jobs.get(job), run.jobs.get(job));
                }
            }
        }
    }

    private static void lookAtWaiting(Run run, Job job, RunJob its) {
        int ended = 0;
        int ill = 0;
        for (int earlier : job.needs) {
            int state = run.jobs.get(earlier).state;
            ended += isEnd(state) ? 1 : 0;
            ill += isEnd(state) && state != 3 ? 1 : 0;
        }
        if (run.cancelled && !job.always) {
            its.state = 6;
        } else if (!job.always && ill > 0) {
            its.state = 5;
        } else if (ended == job.needs.size() && (!job.approval || its.approvers.size() >= 2)) {
            its.state = 1;
        }
    }
}
