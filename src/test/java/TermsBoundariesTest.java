/** Each sentence of the document's 'Terms' that names a boundary: a test of its own, on both sides of it. */
public final class TermsBoundariesTest extends Given {
    private TermsBoundariesTest() {
    }

    public static void main(String[] args) {
        thePipeline();
        statesOfARunsJob();
        taking();
        ending();
        timeGoesOn();
        cancelling();
        Due.finish();
    }

    private static void thePipeline() {
        callsAtMost512();
        jobsAtMost12();
        labelsBits0To7();
        limit0IsNone();
        retries0To3();
        needsEarlierJobs();
        runsAtMost10();
        persons0To7();
        groups0To3OrNone();
        eachRunHasAllJobs();
        noChangeOnceARunIsTriggered();
        runnersAtMost6();
        clockIs0AtFirst();
    }

    private static void statesOfARunsJob() {
        theLastFourAreEnds();
        cancelledRatherThanSkipped();
        skippedAsSoonAsOneEndsOtherThanDone();
        skippedRatherThanHeldBackByApproval();
        alwaysIsNeverSkipped();
        readyWhenAllThatItNeedsAreAtAnEnd();
        readyWhenItNeedsNone();
        readyWhenApproved();
        oneCallSettlesAWholeChain();
        eachKindOfCallSettles();
    }

    private static void taking() {
        takerHasNone();
        allOfItsLabels();
        fewestJobsThatRun();
        onlyWhatRunsIsCounted();
        fewestOfThoseThatItCanTake();
        ofEqualOnesTheLesserPerson();
        ofThoseTheLesserRun();
        thenTheLesserJob();
        runsFromClockOn();
        takingIsABeat();
    }

    private static void ending() {
        wellIsDone();
        noMoreThanRetries();
        triesCountAnewByAgain();
    }

    private static void timeGoesOn() {
        by1AtATime();
        moreThanLostBehindItsBeat();
        lostSetting1To100();
        lostTheFirstTime();
        lostCountsAnewByAgain();
        lostGoesBeforeLimit();
        limitOrLonger();
        limitFarAway();
        limitIsATryThatFailed();
        runnerHasItNoMore();
    }

    private static void cancelling() {
        cancelsWhatIsNotAtAnEnd();
        cancelsNoAlwaysOnes();
        cancelsWhatIsAtNoEndAlone();
        groupCancelsThoseThatAreNotOver();
        groupCancelsItsOwnAlone();
        groupCancelsAllEarlierOnes();
        overWhenAllAreAtAnEnd();
        overWithoutJobs();
        verdicts();
    }

    // "An object is used for at most 512 calls after it has been made"

    private static void callsAtMost512() {
        JobStates x = new JobStates();
        for (int i = 1; i < 512; i++) {
            x.tick(1000);
        }
        Due.is("the 512th call: the clock", x.tick(1000), 512000);

        JobStates y = withJobs(1);
        y.runner(0);
        y.trigger(0, NONE);
        for (int i = 4; i <= 508; i++) {
            y.tick(1000);
        }
        y.take(0);
        y.tick(10);
        Due.is("the 511th call: runs, late", y.state(0, 0), RUNS);
        Due.is("the 512th call: ends, late", y.end(0, true, 1), true);
    }

    // "A PIPELINE has JOBS, at most 12, numbered from 0"

    private static void jobsAtMost12() {
        JobStates x = new JobStates();
        Due.is("JOBS: numbered from 0", x.job(0, 0, 0, false, false), 0);
        for (int i = 1; i < 11; i++) {
            x.job(0, 0, 0, false, false);
        }
        Due.is("JOBS: the 12th", x.job(0, 0, 0, false, false), 11);
        Due.is("JOBS: a 13th", x.job(0, 0, 0, false, false), NONE);
        Due.is("JOBS: the 12th may need the 11th", x.needs(11, 10), true);
        Due.is("JOBS: no 13th may", x.needs(12, 11), false);
    }

    // "LABELS that they want (bits 0 .. 7)"

    private static void labelsBits0To7() {
        for (int bit = 0; bit < 32; bit++) {
            JobStates x = new JobStates();
            x.job(1 << bit, 0, 0, false, false);
            x.runner(0);
            x.runner(~(1 << bit));
            x.runner(1 << bit);
            x.trigger(0, NONE);
            boolean wanted = bit <= 7;
            Due.is("LABEL " + bit + ": all but it", x.take(1), wanted ? NONE : 0);
            x.end(1, true, 0);
            x.trigger(0, NONE);
            Due.is("LABEL " + bit + ": none", x.take(0), wanted ? NONE : 12);
            x.end(0, true, 0);
            x.trigger(0, NONE);
            Due.is("LABEL " + bit + ": it alone", x.take(2), wanted ? 0 : 24);
        }
    }

    // "a LIMIT of time (0: none)"

    private static void limit0IsNone() {
        JobStates none = oneThatRuns(0, 0);
        none.lost(100);
        none.tick(1);
        Due.is("LIMIT 0: after 1", none.state(0, 0), RUNS);
        for (int i = 0; i < 20; i++) {
            none.tick(99);
            none.beat(0);
        }
        Due.is("LIMIT 0: after long", none.state(0, 0), RUNS);

        JobStates least = oneThatRuns(1, 0);
        least.tick(0);
        Due.is("LIMIT 1: after 0", least.state(0, 0), RUNS);
        least.tick(1);
        Due.is("LIMIT 1: after 1", least.state(0, 0), FAILED);
    }

    // "RETRIES (0 .. 3)"

    private static void retries0To3() {
        Due.is("RETRIES 0: tries until it failed", triesUntilFailed(0), 1);
        Due.is("RETRIES 1: tries until it failed", triesUntilFailed(1), 2);
        Due.is("RETRIES 2: tries until it failed", triesUntilFailed(2), 3);
        Due.is("RETRIES 3: tries until it failed", triesUntilFailed(3), 4);
        JobStates x = new JobStates();
        Due.is("RETRIES -1", x.job(0, 0, -1, false, false), NONE);
        Due.is("RETRIES 4", x.job(0, 0, 4, false, false), NONE);
    }

    private static int triesUntilFailed(int retries) {
        JobStates x = oneOf(0, retries, false, false);
        int tries = 0;
        while (tries < 9 && x.state(0, 0) == READY) {
            takeAndEnd(x, 0, false);
            tries++;
        }
        return tries;
    }

    // "and NEED earlier JOBS"

    private static void needsEarlierJobs() {
        JobStates x = withJobs(12);
        Due.is("NEED: the one before", x.needs(11, 10), true);
        Due.is("NEED: the first", x.needs(11, 0), true);
        Due.is("NEED: itself", x.needs(10, 10), false);
        Due.is("NEED: the one after", x.needs(10, 11), false);
        Due.is("NEED: the first by itself", x.needs(0, 0), false);
        for (int earlier = 1; earlier < 10; earlier++) {
            Due.is("NEED: all earlier ones", x.needs(11, earlier), true);
        }
        x.trigger(0, NONE);
        Due.is("NEED: refused ones hold nothing back", x.state(0, 10), READY);
        Due.is("NEED: nor the first", x.state(0, 0), READY);
        x.runner(0);
        for (int i = 0; i < 11; i++) {
            Due.is("NEED: all eleven hold it back", x.state(0, 11), WAITS);
            takeAndEnd(x, 0, true);
        }
        Due.is("NEED: all eleven are done", x.state(0, 11), READY);
    }

    // "RUNS, at most 10, numbered from 0"

    private static void runsAtMost10() {
        JobStates x = withJobs(12);
        Due.is("RUNS: numbered from 0", x.trigger(0, NONE), 0);
        for (int i = 1; i < 9; i++) {
            x.trigger(0, NONE);
        }
        Due.is("RUNS: the 10th", x.trigger(0, NONE), 9);
        Due.is("RUNS: an 11th", x.trigger(0, NONE), NONE);
        Due.is("RUNS: the 10th has its jobs", x.state(9, 11), READY);
        Due.is("RUNS: the 11th has none", x.state(10, 0), NONE);
        for (int i = 0; i < 10; i++) {
            x.cancel(i);
        }
        Due.is("RUNS: an 11th, when all are over", x.trigger(0, NONE), NONE);
    }

    // "are triggered by a PERSON 0 .. 7"

    private static void persons0To7() {
        JobStates x = withJobs(1);
        Due.is("PERSON -1", x.trigger(-1, NONE), NONE);
        Due.is("PERSON 0", x.trigger(0, NONE), 0);
        Due.is("PERSON 7", x.trigger(7, NONE), 1);
        Due.is("PERSON 8", x.trigger(8, NONE), NONE);
    }

    // "in a GROUP 0 .. 3 or none"

    private static void groups0To3OrNone() {
        JobStates x = withJobs(1);
        Due.is("GROUP -2", x.trigger(0, -2), NONE);
        Due.is("GROUP none", x.trigger(0, -1), 0);
        Due.is("GROUP 0", x.trigger(0, 0), 1);
        Due.is("GROUP 3", x.trigger(0, 3), 2);
        Due.is("GROUP 4", x.trigger(0, 4), NONE);
        x.trigger(0, 0);
        Due.is("GROUP 0 is one", x.state(1, 0), CANCELLED);
        Due.is("GROUP 3 is another", x.state(2, 0), READY);
        x.trigger(0, 3);
        Due.is("GROUP 3 is one", x.state(2, 0), CANCELLED);
        x.trigger(0, -1);
        Due.is("GROUP none is none", x.state(0, 0), READY);
    }

    // "each has all JOBS that there are then"

    private static void eachRunHasAllJobs() {
        for (int count = 0; count <= 12; count++) {
            JobStates x = withJobs(count);
            x.trigger(0, NONE);
            x.trigger(1, NONE);
            for (int run = 0; run < 2; run++) {
                for (int job = 0; job <= 12; job++) {
                    Due.is("all JOBS: " + job + " of " + count, x.state(run, job), job < count ? READY : NONE);
                }
            }
        }
    }

    // "a PIPELINE isn't changed any more when a RUN has been triggered"

    private static void noChangeOnceARunIsTriggered() {
        JobStates x = withJobs(2);
        x.trigger(8, NONE);
        x.trigger(0, 4);
        Due.is("PIPELINE: a refused trigger is none", x.job(0, 0, 0, false, false), 2);
        Due.is("PIPELINE: a refused trigger is none, needs", x.needs(2, 0), true);
        x.trigger(0, NONE);
        Due.is("PIPELINE: a job after a trigger", x.job(0, 0, 0, false, false), NONE);
        Due.is("PIPELINE: needs after a trigger", x.needs(2, 1), false);
        x.cancel(0);
        Due.is("PIPELINE: a job when the run is over", x.job(0, 0, 0, false, false), NONE);
        Due.is("PIPELINE: needs when the run is over", x.needs(2, 1), false);
        x.trigger(0, NONE);
        Due.is("PIPELINE: a later run has no more jobs", x.state(1, 3), NONE);
        x.runner(0);
        takeAndEnd(x, 0, true);
        Due.is("PIPELINE: a later run needs no more", x.state(1, 2), READY);
    }

    // "RUNNERS, at most 6, numbered from 0"

    private static void runnersAtMost6() {
        JobStates x = withJobs(7);
        x.trigger(0, NONE);
        for (int i = 0; i < 6; i++) {
            Due.is("RUNNERS: number", x.runner(0), i);
        }
        Due.is("RUNNERS: a 7th", x.runner(0), NONE);
        for (int i = 0; i < 6; i++) {
            Due.is("RUNNERS: each takes", x.take(i), i);
        }
        Due.is("RUNNERS: a 7th takes nothing", x.take(6), NONE);
        Due.is("RUNNERS: what the 7th would get", x.state(0, 6), READY);
        Due.is("RUNNERS: a 7th, when all are busy", x.runner(0), NONE);
    }

    // "CLOCK: 0 at first"

    private static void clockIs0AtFirst() {
        Due.is("CLOCK: at first", new JobStates().tick(0), 0);
        Due.is("CLOCK: after 1", new JobStates().tick(1), 1);
    }

    // "3 DONE, 4 FAILED, 5 SKIPPED, 6 CANCELLED. The last four are ENDS."

    private static void theLastFourAreEnds() {
        for (int state = WAITS; state <= CANCELLED; state++) {
            JobStates x = pair(true);
            x.job(0, 0, 0, true, false);
            x.needs(2, 1);
            withSecondAt(state, x);
            boolean end = state >= DONE;
            Due.is("ENDS: brought to " + state, x.state(0, 1), state);
            Due.is("ENDS: what always runs after " + state, x.state(0, 2), end ? READY : WAITS);
            Due.is("ENDS: approval at " + state, x.approve(0, 1, 3), end ? -1 : 1);
        }
    }

    // "becomes CANCELLED, if its RUN is CANCELLED and it isn't ALWAYS; else SKIPPED"

    private static void cancelledRatherThanSkipped() {
        JobStates x = pair(false);
        x.trigger(0, NONE);
        x.cancel(0);
        Due.is("WAITS: for a cancelled one in a cancelled run", x.state(0, 1), CANCELLED);

        JobStates y = withJobs(1);
        y.job(0, 0, 0, true, false);
        y.job(0, 0, 0, false, false);
        y.needs(1, 0);
        y.needs(2, 1);
        y.runner(0);
        y.trigger(0, NONE);
        y.cancel(0);
        Due.is("WAITS: always one in a cancelled run", y.state(0, 1), READY);
        Due.is("WAITS: for an always one in a cancelled run", y.state(0, 2), CANCELLED);
        takeAndEnd(y, 0, true);
        Due.is("WAITS: cancelled stays so", y.state(0, 2), CANCELLED);
    }

    // "else SKIPPED, if it isn't ALWAYS and one that it NEEDS is at an END other than DONE"

    private static void skippedAsSoonAsOneEndsOtherThanDone() {
        JobStates x = withRunners(withJobs(4), 3);
        x.needs(3, 0);
        x.needs(3, 1);
        x.trigger(0, NONE);
        x.take(0);
        x.take(1);
        x.take(2);
        x.end(2, false, 0);
        Due.is("SKIPPED: not by one that it doesn't need", x.state(0, 3), WAITS);
        x.end(0, true, 0);
        Due.is("SKIPPED: not by one that is done", x.state(0, 3), WAITS);
        x.end(1, false, 0);
        Due.is("SKIPPED: by one that failed", x.state(0, 3), SKIPPED);

        JobStates y = withRunners(withJobs(3), 2);
        y.needs(2, 0);
        y.needs(2, 1);
        y.trigger(0, NONE);
        y.take(0);
        y.take(1);
        y.end(1, false, 0);
        Due.is("SKIPPED: while another still runs", y.state(0, 2), SKIPPED);
        y.end(0, true, 0);
        Due.is("SKIPPED: stays so", y.state(0, 2), SKIPPED);
    }

    private static void skippedRatherThanHeldBackByApproval() {
        JobStates x = pair(true);
        x.trigger(0, NONE);
        x.approve(0, 1, 1);
        Due.is("SKIPPED: not while it may be approved", x.state(0, 1), WAITS);
        takeAndEnd(x, 0, false);
        Due.is("SKIPPED: though not approved", x.state(0, 1), SKIPPED);
    }

    private static void alwaysIsNeverSkipped() {
        JobStates x = pair(false);
        x.job(0, 0, 0, true, false);
        x.job(0, 0, 0, false, false);
        x.needs(2, 1);
        x.needs(3, 1);
        x.trigger(0, NONE);
        takeAndEnd(x, 0, false);
        Due.is("SKIPPED: a skipped one is at an end other than done", x.state(0, 3), SKIPPED);
        Due.is("SKIPPED: not an always one", x.state(0, 2), READY);
    }

    // "else READY, if all that it NEEDS are at an END, and it is APPROVED, if it wants that"

    private static void readyWhenAllThatItNeedsAreAtAnEnd() {
        for (int always = 0; always < 2; always++) {
            JobStates x = withRunners(withJobs(2), 2);
            x.job(0, 0, 0, always == 1, false);
            x.needs(2, 0);
            x.needs(2, 1);
            x.trigger(0, NONE);
            x.take(0);
            x.take(1);
            Due.is("READY: none at an end", x.state(0, 2), WAITS);
            x.end(1, true, 0);
            Due.is("READY: all but one", x.state(0, 2), WAITS);
            x.end(0, true, 0);
            Due.is("READY: all", x.state(0, 2), READY);
        }
    }

    private static void readyWhenItNeedsNone() {
        JobStates x = pair(false);
        x.trigger(0, NONE);
        Due.is("READY: needs none", x.state(0, 0), READY);
        Due.is("READY: needs one", x.state(0, 1), WAITS);
    }

    private static void readyWhenApproved() {
        for (int always = 0; always < 2; always++) {
            JobStates x = oneOf(0, 0, always == 1, true);
            Due.is("APPROVED: by none", x.state(0, 0), WAITS);
            x.approve(0, 0, 6);
            Due.is("APPROVED: by one", x.state(0, 0), WAITS);
            Due.is("APPROVED: by one, not taken", x.take(0), NONE);
            x.approve(0, 0, 6);
            Due.is("APPROVED: by one, twice", x.state(0, 0), WAITS);
            x.approve(0, 0, 0);
            Due.is("APPROVED: by one and who triggered", x.state(0, 0), WAITS);
            x.approve(0, 0, 7);
            Due.is("APPROVED: by two", x.state(0, 0), READY);
        }
        JobStates early = pair(true);
        early.trigger(0, NONE);
        early.approve(0, 1, 1);
        early.approve(0, 1, 2);
        Due.is("APPROVED: but what it needs isn't at an end", early.state(0, 1), WAITS);
        takeAndEnd(early, 0, true);
        Due.is("APPROVED: and what it needs is", early.state(0, 1), READY);
    }

    // "After each call, RUN by RUN, JOB by JOB in order"

    private static void oneCallSettlesAWholeChain() {
        JobStates x = withJobs(12);
        x.runner(0);
        for (int job = 1; job < 12; job++) {
            x.needs(job, job - 1);
        }
        x.trigger(0, NONE);
        takeAndEnd(x, 0, false);
        for (int job = 1; job < 12; job++) {
            Due.is("after one call: job " + job, x.state(0, job), SKIPPED);
        }
        Due.is("after one call: over", x.verdict(0), 2);
        Due.is("after one call: all wait again", x.again(0), 12);
        Due.is("after one call: the first is ready", x.state(0, 0), READY);
        Due.is("after one call: the second waits", x.state(0, 1), WAITS);
    }

    private static void eachKindOfCallSettles() {
        Due.is("after trigger: ready", pairWithAlways().state(0, 0), READY);
        JobStates byLimit = pairWithAlways();
        byLimit.take(0);
        byLimit.tick(8);
        Due.is("before a tick to its limit", byLimit.state(0, 1), WAITS);
        byLimit.tick(1);
        Due.is("after a tick to its limit: skipped", byLimit.state(0, 1), SKIPPED);
        Due.is("after a tick to its limit: always", byLimit.state(0, 2), READY);
        JobStates byEnd = pairWithAlways();
        byEnd.take(0);
        byEnd.end(0, false, 0);
        Due.is("after an end: skipped", byEnd.state(0, 1), SKIPPED);
        Due.is("after an end: always", byEnd.state(0, 2), READY);
        takeAndEnd(byEnd, 0, true);
        byEnd.again(0);
        Due.is("after again: ready", byEnd.state(0, 0), READY);
        JobStates byCancel = pairWithAlways();
        byCancel.cancel(0);
        Due.is("after a cancel: always", byCancel.state(0, 2), READY);
        JobStates byGroup = pairWithAlways();
        byGroup.trigger(5, 0);
        Due.is("after a newer one of its group: always", byGroup.state(0, 2), READY);
        Due.is("after a newer one of its group: the newer's", byGroup.state(1, 2), WAITS);
    }

    /** A pair whose first has a LIMIT of 9, an always one that needs both, and a run in group 0. */
    private static JobStates pairWithAlways() {
        JobStates x = new JobStates();
        x.job(0, 9, 0, false, false);
        x.job(0, 0, 0, false, false);
        x.job(0, 0, 0, true, false);
        x.needs(1, 0);
        x.needs(2, 0);
        x.needs(2, 1);
        x.runner(0);
        x.trigger(0, 0);
        return x;
    }

    // "TAKING: a RUNNER that has none gets a READY JOB"

    private static void takerHasNone() {
        JobStates x = withRunners(withJobs(2), 1);
        x.trigger(0, NONE);
        Due.is("TAKING: has none", x.take(0), 0);
        Due.is("TAKING: has one", x.take(0), NONE);
        Due.is("TAKING: the other stays ready", x.state(0, 1), READY);
        Due.is("TAKING: keeps the first", x.has(0), 0);
        x.end(0, true, 0);
        Due.is("TAKING: has none any more", x.take(0), 1);
        for (int state = WAITS; state <= CANCELLED; state++) {
            JobStates y = withSecondAt(state, pair(true));
            y.end(0, true, 0);
            y.runner(0);
            int due = state == READY ? 1 : state == WAITS ? 0 : NONE;
            Due.is("TAKING: the second at " + state, y.take(1), due);
        }
    }

    // "all of whose LABELS it has"

    private static void allOfItsLabels() {
        int[] lacking = {0, 0x01, 0x80, 0x7F, 0xFE, 0x7E, 0x100, 0x180};
        int[] having = {0x81, 0xFF, 0x83, 0x181, -1};
        for (int labels : lacking) {
            Due.is("LABELS: " + labels + " for 0x81", takenBy(labels, 0x81), NONE);
        }
        for (int labels : having) {
            Due.is("LABELS: " + labels + " for 0x81", takenBy(labels, 0x81), 0);
        }
        Due.is("LABELS: none for none", takenBy(0, 0), 0);
        Due.is("LABELS: all for none", takenBy(0xFF, 0), 0);
        Due.is("LABELS: all for all", takenBy(0xFF, 0xFF), 0);
        Due.is("LABELS: all but one for all", takenBy(0xEF, 0xFF), NONE);
    }

    private static int takenBy(int runnersLabels, int jobsLabels) {
        JobStates x = new JobStates();
        x.job(jobsLabels, 0, 0, false, false);
        x.runner(runnersLabels);
        x.trigger(0, NONE);
        return x.take(0);
    }

    // "of the RUN whose PERSON has the fewest JOBS that RUN (of all RUNS"

    private static void fewestJobsThatRun() {
        JobStates x = withRunners(withJobs(3), 6);
        x.trigger(1, NONE);
        x.trigger(1, NONE);
        x.take(0);
        x.trigger(2, NONE);
        Due.is("fewest: 0 before 1", x.take(1), 24);
        Due.is("fewest: 1 and 1, by the lesser person", x.take(2), 1);
        Due.is("fewest: 1 before 2", x.take(3), 25);
        Due.is("fewest: 2 and 2, by the lesser person", x.take(4), 2);
        x.end(0, true, 0);
        x.end(2, true, 0);
        x.end(4, true, 0);
        Due.is("fewest: none run of run 0", x.take(0), 12);
        Due.is("fewest: 1 before 2, in another run", x.take(2), 13);
        Due.is("fewest: 2 and 2 of all runs", x.take(4), 14);
        x.end(0, true, 0);
        x.trigger(1, NONE);
        x.end(1, true, 0);
        Due.is("fewest: 1 before 2 of all runs", x.take(1), 26);
    }

    private static void onlyWhatRunsIsCounted() {
        JobStates ended = withRunners(withJobs(3), 2);
        ended.trigger(1, NONE);
        takeAndEnd(ended, 0, true);
        takeAndEnd(ended, 0, false);
        ended.trigger(2, NONE);
        Due.is("fewest: ended ones are none", ended.take(0), 2);

        JobStates lost = withRunners(withJobs(1), 2);
        lost.trigger(1, NONE);
        lost.take(0);
        lost.tick(11);
        lost.trigger(2, NONE);
        Due.is("fewest: lost ones are none", lost.take(0), 0);

        JobStates cancelled = withRunners(withJobs(1), 2);
        cancelled.trigger(1, NONE);
        cancelled.take(0);
        cancelled.cancel(0);
        cancelled.trigger(2, NONE);
        cancelled.trigger(1, NONE);
        Due.is("fewest: cancelled ones are none", cancelled.take(0), 24);

        JobStates always = new JobStates();
        always.job(0, 0, 0, true, false);
        withRunners(always, 2);
        always.trigger(1, NONE);
        always.take(0);
        always.cancel(0);
        always.trigger(2, NONE);
        always.trigger(1, NONE);
        Due.is("fewest: always ones of a cancelled run still run", always.take(1), 12);
    }

    private static void fewestOfThoseThatItCanTake() {
        JobStates x = new JobStates();
        x.job(1, 0, 0, false, false);
        x.job(2, 0, 0, false, false);
        x.runner(1);
        x.runner(2);
        x.trigger(1, NONE);
        x.take(0);
        x.end(0, true, 0);
        x.trigger(2, NONE);
        x.take(0);
        Due.is("fewest: person 1 has none, 2 has one", x.take(1), 1);
        x.end(0, true, 0);
        Due.is("fewest: none that it can take", x.take(0), NONE);
        x.trigger(3, NONE);
        x.trigger(1, NONE);
        Due.is("fewest: 2 has none but none for it, so 3", x.take(0), 24);
    }

    // "of equal ones the lesser PERSON"

    private static void ofEqualOnesTheLesserPerson() {
        JobStates x = withRunners(withJobs(1), 6);
        for (int person = 7; person >= 0; person--) {
            x.trigger(person, NONE);
        }
        for (int person = 0; person < 6; person++) {
            Due.is("lesser PERSON: " + person, x.take(person), 12 * (7 - person));
        }
    }

    // "of those the lesser RUN"

    private static void ofThoseTheLesserRun() {
        JobStates x = new JobStates();
        x.job(2, 0, 0, false, false);
        x.job(1, 0, 0, false, false);
        x.runner(2);
        x.runner(3);
        x.trigger(4, NONE);
        x.trigger(4, NONE);
        x.trigger(4, NONE);
        Due.is("lesser RUN: 0 before 1", x.take(0), 0);
        Due.is("lesser RUN: before the lesser job", x.take(1), 1);
        x.end(1, true, 0);
        Due.is("lesser RUN: 1 before 2", x.take(1), 12);
    }

    // "then the lesser JOB"

    private static void thenTheLesserJob() {
        JobStates x = withJobs(12);
        withRunners(x, 1);
        x.trigger(0, NONE);
        for (int job = 0; job < 12; job++) {
            Due.is("lesser JOB", x.take(0), job);
            x.end(0, true, 0);
        }
        Due.is("lesser JOB: none left", x.take(0), NONE);
    }

    // "It RUNS from CLOCK on"

    private static void runsFromClockOn() {
        JobStates x = oneOf(3, 1, false, false);
        x.tick(2);
        x.take(0);
        x.tick(2);
        Due.is("from CLOCK on: one less than LIMIT", x.state(0, 0), RUNS);
        x.tick(1);
        Due.is("from CLOCK on: LIMIT", x.state(0, 0), READY);
        x.tick(1);
        x.take(0);
        x.tick(2);
        Due.is("from CLOCK on: anew, one less than LIMIT", x.state(0, 0), RUNS);
        x.tick(1);
        Due.is("from CLOCK on: anew, LIMIT", x.state(0, 0), FAILED);
    }

    // "that is a BEAT of the RUNNER, too"

    private static void takingIsABeat() {
        JobStates x = oneOf(0, 0, false, false);
        x.tick(1000);
        x.take(0);
        x.tick(10);
        Due.is("taking is a BEAT: LOST behind", x.state(0, 0), RUNS);
        x.tick(1);
        Due.is("taking is a BEAT: more than LOST behind", x.state(0, 0), READY);
    }

    // "well: DONE. Not well: a TRY that failed"

    private static void wellIsDone() {
        JobStates well = oneThatRuns(0, 0);
        well.end(0, true, 0);
        Due.is("ENDING: well, artefact 0", well.state(0, 0), DONE);
        JobStates bad = oneThatRuns(0, 0);
        bad.end(0, false, 5);
        Due.is("ENDING: not well", bad.state(0, 0), FAILED);
        JobStates afterOne = oneThatRuns(0, 1);
        afterOne.end(0, false, 5);
        takeAndEnd(afterOne, 0, true);
        Due.is("ENDING: well after a try that failed", afterOne.state(0, 0), DONE);
    }

    // "if it has had no more than RETRIES TRIES that failed"

    private static void noMoreThanRetries() {
        for (int retries = 0; retries <= 3; retries++) {
            JobStates x = oneOf(0, retries, false, false);
            for (int tries = 1; tries <= retries; tries++) {
                takeAndEnd(x, 0, false);
                Due.is("RETRIES " + retries + ": after " + tries, x.state(0, 0), READY);
            }
            takeAndEnd(x, 0, false);
            Due.is("RETRIES " + retries + ": one more", x.state(0, 0), FAILED);
            x.trigger(0, NONE);
            takeAndEnd(x, 0, false);
            Due.is("RETRIES " + retries + ": another run's own", x.state(1, 0), retries == 0 ? FAILED : READY);
        }
        JobStates lost = oneThatRuns(0, 1);
        lost.tick(11);
        takeAndEnd(lost, 0, false);
        Due.is("RETRIES 1: lost once, one that failed", lost.state(0, 0), READY);
        takeAndEnd(lost, 0, false);
        Due.is("RETRIES 1: lost once, two that failed", lost.state(0, 0), FAILED);
    }

    // "since it began to WAIT first (or again by again)"

    private static void triesCountAnewByAgain() {
        JobStates x = oneOf(0, 2, false, false);
        for (int round = 0; round < 3; round++) {
            takeAndEnd(x, 0, false);
            takeAndEnd(x, 0, false);
            Due.is("since again: two that failed", x.state(0, 0), READY);
            takeAndEnd(x, 0, false);
            Due.is("since again: three that failed", x.state(0, 0), FAILED);
            x.again(0);
        }
        Due.is("since again: tries in all", x.about(0, 0, 1), 9);
    }

    // "TIME goes on by 1 at a time: at each new CLOCK"

    private static void by1AtATime() {
        JobStates limit = oneThatRuns(5, 0);
        limit.tick(1000);
        Due.is("by 1: the limit comes before the loss", limit.state(0, 0), FAILED);
        Due.is("by 1: it isn't lost", limit.about(0, 0, 2), 0);
        JobStates loss = oneThatRuns(12, 0);
        loss.tick(1000);
        Due.is("by 1: the loss comes before the limit", loss.state(0, 0), READY);
        Due.is("by 1: it is lost once", loss.about(0, 0, 2), 1);
        JobStates still = oneThatRuns(1, 0);
        still.lost(1);
        still.tick(0);
        Due.is("by 1: no new CLOCK", still.state(0, 0), RUNS);

        JobStates two = new JobStates();
        two.job(0, 40, 1, false, false);
        two.job(0, 7, 1, false, false);
        withRunners(two, 2);
        two.trigger(0, NONE);
        two.take(0);
        two.take(1);
        two.tick(7);
        Due.is("by 1: one is at its limit", two.state(0, 1), READY);
        Due.is("by 1: the other is not", two.state(0, 0), RUNS);
        Due.is("by 1: far beyond both", two.tick(993), 1000);
        Due.is("by 1: the other is lost", two.about(0, 0, 2), 1);
        Due.is("by 1: the one isn't", two.about(0, 1, 2), 0);
    }

    // "if CLOCK is more than LOST ... behind its RUNNER's BEAT: it is LOST"

    private static void moreThanLostBehindItsBeat() {
        JobStates x = oneThatRuns(0, 0);
        x.tick(10);
        Due.is("LOST: 10 behind", x.state(0, 0), RUNS);
        x.beat(0);
        x.tick(10);
        Due.is("LOST: 10 behind a later beat", x.state(0, 0), RUNS);
        x.tick(1);
        Due.is("LOST: 11 behind", x.state(0, 0), READY);
        JobStates two = withRunners(withJobs(2), 2);
        two.trigger(0, NONE);
        two.take(0);
        two.take(1);
        two.tick(1);
        two.beat(1);
        two.tick(10);
        Due.is("LOST: by its own runner's beat", two.state(0, 0), READY);
        Due.is("LOST: not by another's", two.state(0, 1), RUNS);
    }

    // "(a setting, 1 .. 100, at first 10)"

    private static void lostSetting1To100() {
        Due.is("LOST setting: 1", clockOfLoss(1), 2);
        Due.is("LOST setting: 2", clockOfLoss(2), 3);
        Due.is("LOST setting: 99", clockOfLoss(99), 100);
        Due.is("LOST setting: 100", clockOfLoss(100), 101);
        Due.is("LOST setting: 0 leaves 10", clockOfLoss(0), 11);
        Due.is("LOST setting: 101 leaves 10", clockOfLoss(101), 11);
    }

    private static int clockOfLoss(int setting) {
        JobStates x = oneThatRuns(0, 0);
        x.lost(setting);
        int clock = 0;
        while (clock < 200 && x.has(0) != NONE) {
            clock = x.tick(1);
        }
        return clock;
    }

    // "the first time (since it began to WAIT) it is READY again, else FAILED"

    private static void lostTheFirstTime() {
        JobStates x = oneThatRuns(0, 3);
        x.tick(11);
        Due.is("LOST: the first time", x.state(0, 0), READY);
        takeAndEnd(x, 0, false);
        Due.is("LOST: a try that failed between", x.state(0, 0), READY);
        x.take(0);
        x.tick(11);
        Due.is("LOST: the second time", x.state(0, 0), FAILED);
        Due.is("LOST: how often", x.about(0, 0, 2), 2);
        x.trigger(0, NONE);
        x.take(0);
        x.tick(11);
        Due.is("LOST: the first time of another run", x.state(1, 0), READY);

        JobStates tried = oneThatRuns(0, 1);
        tried.end(0, false, 0);
        tried.take(0);
        tried.tick(11);
        Due.is("LOST: the first time, tries used up", tried.state(0, 0), READY);
    }

    private static void lostCountsAnewByAgain() {
        JobStates x = oneOf(0, 0, false, false);
        for (int round = 0; round < 3; round++) {
            x.take(0);
            x.tick(11);
            Due.is("LOST since again: the first time", x.state(0, 0), READY);
            x.take(0);
            x.tick(11);
            Due.is("LOST since again: the second time", x.state(0, 0), FAILED);
            x.again(0);
        }
        Due.is("LOST since again: how often in all", x.about(0, 0, 2), 6);
    }

    // "Else, if it has a LIMIT": what is LOST is no try that failed

    private static void lostGoesBeforeLimit() {
        JobStates both = oneThatRuns(11, 0);
        both.tick(11);
        Due.is("LOST and LIMIT at once: lost", both.state(0, 0), READY);
        Due.is("LOST and LIMIT at once: counts as lost", both.about(0, 0, 2), 1);
        JobStates limitFirst = oneThatRuns(10, 0);
        limitFirst.tick(11);
        Due.is("LIMIT one before LOST: failed", limitFirst.state(0, 0), FAILED);
        Due.is("LIMIT one before LOST: isn't lost", limitFirst.about(0, 0, 2), 0);
        JobStates beating = oneThatRuns(11, 0);
        beating.tick(1);
        beating.beat(0);
        beating.tick(10);
        Due.is("LIMIT by a beat one before LOST: failed", beating.state(0, 0), FAILED);
    }

    // "RUNS since LIMIT or longer: a TRY that failed"

    private static void limitOrLonger() {
        for (int limit = 1; limit <= 10; limit++) {
            JobStates x = oneThatRuns(limit, 0);
            x.tick(limit - 1);
            Due.is("LIMIT " + limit + ": one less", x.state(0, 0), RUNS);
            x.tick(1);
            Due.is("LIMIT " + limit + ": reached", x.state(0, 0), FAILED);
        }
    }

    private static void limitFarAway() {
        JobStates x = oneThatRuns(1000, 0);
        x.lost(100);
        for (int i = 0; i < 9; i++) {
            x.tick(100);
            x.beat(0);
        }
        x.tick(99);
        Due.is("LIMIT 1000: 999", x.state(0, 0), RUNS);
        x.tick(1);
        Due.is("LIMIT 1000: 1000", x.state(0, 0), FAILED);

        JobStates most = oneOf(Integer.MAX_VALUE, 0, false, false);
        most.tick(1000);
        most.take(0);
        most.tick(10);
        Due.is("the greatest LIMIT", most.state(0, 0), RUNS);
    }

    private static void limitIsATryThatFailed() {
        JobStates x = oneThatRuns(2, 2);
        x.tick(2);
        Due.is("LIMIT: a first try that failed", x.state(0, 0), READY);
        takeAndEnd(x, 0, false);
        Due.is("LIMIT: a second, told by its runner", x.state(0, 0), READY);
        x.take(0);
        x.tick(2);
        Due.is("LIMIT: a third", x.state(0, 0), FAILED);
    }

    // "the RUNNER has it no more", by LOST and by LIMIT

    private static void runnerHasItNoMore() {
        JobStates[] both = {oneThatRuns(0, 1), oneThatRuns(10, 1)};
        for (JobStates x : both) {
            Due.is("before: has it", x.has(0), 0);
            Due.is("before: on it", x.about(0, 0, 0), 0);
            x.tick(11);
            Due.is("has it no more", x.has(0), NONE);
            Due.is("on it no more", x.about(0, 0, 0), NONE);
            Due.is("can't beat for it any more", x.beat(0), false);
            Due.is("can't end it any more", x.end(0, true, 8), false);
            Due.is("it is ready still", x.state(0, 0), READY);
            Due.is("can take it", x.take(0), 0);
        }
    }

    // "its JOBS that WAIT or are READY and aren't ALWAYS are CANCELLED; so are those that RUN"

    private static void cancelsWhatIsNotAtAnEnd() {
        for (int state = WAITS; state <= RUNS; state++) {
            JobStates x = withSecondAt(state, pair(true));
            Due.is("CANCELLING: at " + state, x.cancel(0), true);
            Due.is("CANCELLING: what was at " + state, x.state(0, 1), CANCELLED);
            Due.is("CANCELLING: on no runner", x.about(0, 1, 0), NONE);
            Due.is("CANCELLING: its runner has none", x.has(0), NONE);
            Due.is("CANCELLING: its runner can't end it", x.end(0, true, 3), false);
            Due.is("CANCELLING: no artefact", x.about(0, 1, 3), 0);
        }
    }

    private static void cancelsNoAlwaysOnes() {
        JobStates x = new JobStates();
        x.job(0, 0, 0, true, false);
        x.job(0, 0, 0, true, false);
        x.job(0, 0, 0, true, false);
        x.job(0, 0, 0, false, false);
        x.needs(2, 0);
        x.runner(0);
        x.trigger(0, NONE);
        x.take(0);
        Due.is("CANCELLING: with always ones", x.cancel(0), true);
        Due.is("CANCELLING: always, runs", x.state(0, 0), RUNS);
        Due.is("CANCELLING: always, ready", x.state(0, 1), READY);
        Due.is("CANCELLING: always, waits", x.state(0, 2), WAITS);
        Due.is("CANCELLING: not always", x.state(0, 3), CANCELLED);
        Due.is("CANCELLING: always, ends", x.end(0, true, 4), true);
        Due.is("CANCELLING: always, needed it", x.state(0, 2), READY);
        takeAndEnd(x, 0, true);
        Due.is("CANCELLING: all but one always one ended", x.verdict(0), 0);
        takeAndEnd(x, 0, true);
        Due.is("CANCELLING: all always ones ended", x.verdict(0), 3);
    }

    private static void cancelsWhatIsAtNoEndAlone() {
        int[] ends = {DONE, FAILED, SKIPPED};
        for (int end : ends) {
            JobStates x = pair(false);
            x.job(0, 0, 0, false, true);
            withSecondAt(end, x);
            Due.is("CANCELLING: one is left", x.cancel(0), true);
            Due.is("CANCELLING: the one that was left", x.state(0, 2), CANCELLED);
            Due.is("CANCELLING: what was at " + end, x.state(0, 1), end);
        }
    }

    // "A RUN triggered in a GROUP cancels all earlier ones of the GROUP that aren't OVER"

    private static void groupCancelsThoseThatAreNotOver() {
        JobStates x = withRunners(withJobs(2), 1);
        x.trigger(0, 2);
        takeAndEnd(x, 0, true);
        takeAndEnd(x, 0, true);
        x.trigger(0, 2);
        Due.is("GROUP: over, went well", x.verdict(0), 1);
        takeAndEnd(x, 0, true);
        takeAndEnd(x, 0, false);
        x.trigger(0, 2);
        Due.is("GROUP: over, failed", x.verdict(1), 2);
        Due.is("GROUP: over and not cancelled, so again", x.again(1), 1);
        takeAndEnd(x, 0, true);
        takeAndEnd(x, 0, true);
        x.trigger(0, 2);
        Due.is("GROUP: over by again", x.verdict(1), 1);
        Due.is("GROUP: all but one at an end", x.verdict(2), 3);
        Due.is("GROUP: what was done stays", x.state(2, 0), DONE);
        Due.is("GROUP: what was ready", x.state(2, 1), CANCELLED);
    }

    private static void groupCancelsItsOwnAlone() {
        for (int group = 0; group < 4; group++) {
            JobStates x = withJobs(1);
            for (int other = -1; other < 4; other++) {
                x.trigger(5, other);
            }
            x.trigger(5, group);
            for (int other = -1; other < 4; other++) {
                int due = other == group ? CANCELLED : READY;
                Due.is("GROUP " + group + ": run of " + other, x.state(other + 1, 0), due);
            }
            Due.is("GROUP " + group + ": the newest", x.state(5, 0), READY);
        }
        JobStates none = withJobs(1);
        none.trigger(5, NONE);
        none.trigger(5, 0);
        none.trigger(5, NONE);
        Due.is("no GROUP: none of none", none.state(0, 0), READY);
        Due.is("no GROUP: none of a group", none.state(1, 0), READY);
    }

    private static void groupCancelsAllEarlierOnes() {
        JobStates x = new JobStates();
        x.job(0, 0, 0, false, false);
        x.job(0, 0, 0, true, false);
        x.runner(0);
        for (int run = 0; run < 10; run++) {
            x.trigger(run % 8, 1);
            for (int earlier = 0; earlier < run; earlier++) {
                Due.is("GROUP: an earlier one", x.state(earlier, 0), CANCELLED);
                Due.is("GROUP: an earlier one's always one", x.state(earlier, 1), READY);
                Due.is("GROUP: an earlier one was cancelled", x.cancel(earlier), false);
            }
            Due.is("GROUP: the newest one", x.state(run, 0), READY);
        }
        Due.is("GROUP: one too many", x.trigger(0, 1), NONE);
        Due.is("GROUP: one too many cancels none", x.state(9, 0), READY);
    }

    // "OVER is a RUN all of whose JOBS are at an END"

    private static void overWhenAllAreAtAnEnd() {
        int[] verdicts = {0, 0, 0, 1, 2, 2, 3};
        for (int state = WAITS; state <= CANCELLED; state++) {
            JobStates x = withSecondAt(state, pair(true));
            boolean over = state >= DONE;
            Due.is("OVER: the second at " + state, x.verdict(0), verdicts[state]);
            Due.is("OVER: again, at " + state, x.again(0) != NONE, over && state != CANCELLED);
        }
        for (int state = WAITS; state <= CANCELLED; state++) {
            JobStates x = withSecondAt(state, pair(true));
            Due.is("OVER: cancel, at " + state, x.cancel(0), state < DONE);
        }
    }

    private static void overWithoutJobs() {
        JobStates x = new JobStates();
        x.trigger(0, 0);
        Due.is("OVER: no jobs", x.verdict(0), 1);
        Due.is("OVER: no jobs, cancel", x.cancel(0), false);
        Due.is("OVER: no jobs, again", x.again(0), 0);
        x.trigger(0, 0);
        Due.is("OVER: no jobs, not cancelled by its group", x.verdict(0), 1);
        Due.is("OVER: one job, ready", oneOf(0, 0, false, false).verdict(0), 0);
    }

    // "VERDICT of a RUN: 0 it isn't OVER; else 3 if it was CANCELLED, 2 if some JOB FAILED, 1 else"

    private static void verdicts() {
        JobStates x = new JobStates();
        x.job(0, 0, 0, false, false);
        x.job(0, 0, 0, true, false);
        x.runner(0);
        x.trigger(0, NONE);
        takeAndEnd(x, 0, true);
        Due.is("VERDICT: one left", x.verdict(0), 0);
        takeAndEnd(x, 0, true);
        Due.is("VERDICT: all done", x.verdict(0), 1);
        x.trigger(0, NONE);
        takeAndEnd(x, 0, false);
        Due.is("VERDICT: one failed, one left", x.verdict(1), 0);
        takeAndEnd(x, 0, true);
        Due.is("VERDICT: the first failed", x.verdict(1), 2);
        x.trigger(0, NONE);
        takeAndEnd(x, 0, true);
        takeAndEnd(x, 0, false);
        Due.is("VERDICT: the last failed", x.verdict(2), 2);
        x.trigger(0, NONE);
        x.cancel(3);
        Due.is("VERDICT: cancelled, one left", x.verdict(3), 0);
        takeAndEnd(x, 0, false);
        Due.is("VERDICT: cancelled and failed", x.verdict(3), 3);
        x.trigger(0, NONE);
        takeAndEnd(x, 0, false);
        x.cancel(4);
        takeAndEnd(x, 0, true);
        Due.is("VERDICT: failed and cancelled", x.verdict(4), 3);
        x.again(1);
        Due.is("VERDICT: again, one left", x.verdict(1), 0);
        takeAndEnd(x, 0, true);
        Due.is("VERDICT: again, all done", x.verdict(1), 1);
    }
}
