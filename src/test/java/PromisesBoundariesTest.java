/** Each sentence of the promises 1 to 17 that names a boundary: a test of its own, on both sides of it. */
public final class PromisesBoundariesTest extends Given {
    private PromisesBoundariesTest() {
    }

    public static void main(String[] args) {
        buildingThePipeline();
        triggering();
        running();
        cancellingAndAgain();
        asking();
        Due.finish();
    }

    private static void buildingThePipeline() {
        newObjectHasNone();
        jobIfThereAre12();
        jobIfARunHasBeenTriggered();
        jobLimitBelow0();
        jobRetries0To3();
        jobLabelsBeyond7();
        needsNoneSuch();
        needsAlready();
        needsIfARunHasBeenTriggered();
        runnerIfThereAre6();
        lost1To100();
    }

    private static void triggering() {
        triggerIfThereAre10();
        triggerNoSuchPerson();
        triggerNoSuchGroup();
        approveNoneSuch();
        approveNotWanted();
        approveAtAnEnd();
        approveOwnRun();
        approveAlready();
        approvedByTwo();
        approveTellsTheFirstReason();
    }

    private static void running() {
        takeAs12TimesTheRun();
        takeIfThereIsNone();
        takeNoSuchRunner();
        takeIfItHasOne();
        beatNoSuchRunner();
        beatIfItHasNoJob();
        endNoSuchRunner();
        endIfItHasNoJob();
        endIfItHasItNoMore();
        endTakesAnyArtefact();
        tick0To1000();
    }

    private static void cancellingAndAgain() {
        cancelNoneSuch();
        cancelIfOver();
        cancelIfItWas();
        againNoneSuch();
        againIfNotOver();
        againIfCancelled();
        againFailedAndSkippedAlone();
        againAsIfTheyNeverHad();
        againApprovalsStay();
    }

    private static void asking() {
        stateNoneSuch();
        aboutNoneSuch();
        aboutAnotherWhat();
        aboutItsRunner();
        aboutTriesAndLosses();
        aboutTheLatestEndThatWasWell();
        aboutExclusiveOr();
        verdictNoneSuch();
        hasNoneSuch();
        hasNothing();
    }

    // Promise 1: "No jobs, runs, runners."

    private static void newObjectHasNone() {
        JobStates x = new JobStates();
        Due.is("new: no run", x.verdict(0), NONE);
        Due.is("new: no run's job", x.state(0, 0), NONE);
        Due.is("new: no runner", x.has(0), NONE);
        Due.is("new: nothing to take", x.take(0), NONE);
        Due.is("new: the first run", x.trigger(0, NONE), 0);
        Due.is("new: it has no jobs", x.state(0, 0), NONE);
        Due.is("new: the first runner", x.runner(0), 0);
        Due.is("new: the first job", new JobStates().job(0, 0, 0, false, false), 0);
    }

    // Promise 2: "NONE if there are 12, a RUN has been triggered, LIMIT is below 0, or RETRIES aren't 0 .. 3"

    private static void jobIfThereAre12() {
        JobStates x = withJobs(11);
        Due.is("job: with 11", x.job(0, 0, 0, true, true), 11);
        Due.is("job: with 12", x.job(0, 0, 0, true, true), NONE);
        Due.is("job: with 12, once more", x.job(0, 0, 0, false, false), NONE);
    }

    private static void jobIfARunHasBeenTriggered() {
        JobStates x = withJobs(1);
        Due.is("job: no run", x.job(0, 0, 0, false, false), 1);
        x.trigger(0, NONE);
        Due.is("job: a run", x.job(0, 0, 0, false, false), NONE);
        JobStates none = new JobStates();
        none.trigger(0, NONE);
        Due.is("job: a run without jobs", none.job(0, 0, 0, false, false), NONE);
    }

    private static void jobLimitBelow0() {
        JobStates x = new JobStates();
        Due.is("job: LIMIT -1", x.job(0, -1, 0, false, false), NONE);
        Due.is("job: the least LIMIT", x.job(0, Integer.MIN_VALUE, 0, false, false), NONE);
        Due.is("job: LIMIT 0", x.job(0, 0, 0, false, false), 0);
        Due.is("job: LIMIT 1", x.job(0, 1, 0, false, false), 1);
        Due.is("job: the greatest LIMIT", x.job(0, Integer.MAX_VALUE, 0, false, false), 2);
    }

    private static void jobRetries0To3() {
        JobStates x = new JobStates();
        Due.is("job: the least RETRIES", x.job(0, 0, Integer.MIN_VALUE, false, false), NONE);
        Due.is("job: RETRIES -1", x.job(0, 0, -1, false, false), NONE);
        Due.is("job: RETRIES 0", x.job(0, 0, 0, false, false), 0);
        Due.is("job: RETRIES 3", x.job(0, 0, 3, false, false), 1);
        Due.is("job: RETRIES 4", x.job(0, 0, 4, false, false), NONE);
        Due.is("job: the greatest RETRIES", x.job(0, 0, Integer.MAX_VALUE, false, false), NONE);
        Due.is("job: refused ones have no number", x.job(0, 0, 0, false, false), 2);
    }

    // "(LABELS beyond 7 mean nothing.)"

    private static void jobLabelsBeyond7() {
        JobStates x = new JobStates();
        x.job(0x100, 0, 0, false, false);
        x.job(0x80, 0, 0, false, false);
        x.job(Integer.MIN_VALUE, 0, 0, false, false);
        x.job(-1, 0, 0, false, false);
        x.runner(0);
        x.runner(0x80);
        x.runner(0xFF);
        x.trigger(0, NONE);
        Due.is("job: LABEL 8 means nothing", x.take(0), 0);
        x.end(0, true, 0);
        Due.is("job: LABEL 7 does, LABEL 31 doesn't", x.take(0), 2);
        Due.is("job: who has LABEL 7", x.take(1), 1);
        Due.is("job: all LABELS are eight", x.take(2), 3);
    }

    // Promise 3: "false if there are none such, it does already, or a RUN has been triggered"

    private static void needsNoneSuch() {
        JobStates x = withJobs(2);
        Due.is("needs: no such job", x.needs(2, 1), false);
        Due.is("needs: no such earlier one", x.needs(1, -1), false);
        Due.is("needs: neither", x.needs(-1, -1), false);
        Due.is("needs: the first has none earlier", x.needs(0, -1), false);
        Due.is("needs: itself isn't earlier", x.needs(1, 1), false);
        Due.is("needs: a later one isn't earlier", x.needs(0, 1), false);
        Due.is("needs: the last and the first", x.needs(1, 0), true);
        for (int far : FAR_OUT) {
            Due.is("needs: far out", x.needs(far, 0), false);
            Due.is("needs: earlier far out", x.needs(1, far), false);
            Due.is("needs: both far out", x.needs(far, far), false);
        }
        // A shift by 32 is one by 0: such a number must not come round to an earlier job.
        Due.is("needs: earlier 32 below", withJobs(2).needs(1, -32), false);
        Due.is("needs: job 32 above", withJobs(2).needs(33, 32), false);
        Due.is("needs: no jobs", new JobStates().needs(1, 0), false);
    }

    private static void needsAlready() {
        JobStates x = withJobs(3);
        Due.is("needs: first", x.needs(2, 1), true);
        Due.is("needs: already", x.needs(2, 1), false);
        Due.is("needs: another one", x.needs(2, 0), true);
        Due.is("needs: another job", x.needs(1, 0), true);
        Due.is("needs: already, still", x.needs(2, 1), false);
    }

    private static void needsIfARunHasBeenTriggered() {
        JobStates x = withJobs(3);
        Due.is("needs: no run", x.needs(1, 0), true);
        x.trigger(0, NONE);
        Due.is("needs: a run", x.needs(2, 0), false);
        Due.is("needs: a run, what doesn't need", x.state(0, 2), READY);
        Due.is("needs: a run, what needs", x.state(0, 1), WAITS);
    }

    // Promise 4: "NONE if there are 6"

    private static void runnerIfThereAre6() {
        JobStates x = withRunners(new JobStates(), 5);
        Due.is("runner: with 5", x.runner(-1), 5);
        Due.is("runner: with 6", x.runner(-1), NONE);
        Due.is("runner: the 6th is there, has none", x.has(5), NONE);
        JobStates late = withJobs(1);
        late.trigger(0, NONE);
        Due.is("runner: after a run", late.runner(0), 0);
    }

    // Promise 5: "false if it isn't 1 .. 100"

    private static void lost1To100() {
        JobStates x = oneThatRuns(0, 0);
        Due.is("lost: 1", x.lost(1), true);
        Due.is("lost: 100", x.lost(100), true);
        Due.is("lost: 0", x.lost(0), false);
        Due.is("lost: 101", x.lost(101), false);
        for (int far : FAR_OUT) {
            Due.is("lost: far out", x.lost(far), false);
        }
        x.tick(100);
        Due.is("lost: refused ones leave 100", x.state(0, 0), RUNS);
        x.tick(1);
        Due.is("lost: 100 is what it was", x.state(0, 0), READY);

        JobStates lowered = oneThatRuns(0, 0);
        lowered.tick(5);
        lowered.lost(1);
        Due.is("lost: lowered, at the same clock", lowered.state(0, 0), RUNS);
        lowered.tick(1);
        Due.is("lost: lowered, at the next", lowered.state(0, 0), READY);
        JobStates raised = oneThatRuns(0, 0);
        raised.tick(10);
        raised.lost(11);
        raised.tick(1);
        Due.is("lost: raised", raised.state(0, 0), RUNS);
    }

    // Promise 6: "NONE if there are 10, or no such PERSON or GROUP (NONE: in none)"

    private static void triggerIfThereAre10() {
        JobStates x = withJobs(1);
        for (int i = 0; i < 9; i++) {
            x.trigger(0, NONE);
        }
        Due.is("trigger: with 9", x.trigger(0, 0), 9);
        Due.is("trigger: with 10", x.trigger(0, NONE), NONE);
        Due.is("trigger: with 10, in a group", x.trigger(0, 0), NONE);
        Due.is("trigger: with 10, cancels none", x.state(9, 0), READY);
        Due.is("trigger: with 10, is none", x.verdict(10), NONE);
    }

    private static void triggerNoSuchPerson() {
        JobStates x = withJobs(1);
        x.trigger(0, 1);
        Due.is("trigger: PERSON -1", x.trigger(-1, 1), NONE);
        Due.is("trigger: PERSON 8", x.trigger(8, 1), NONE);
        for (int far : FAR_OUT) {
            Due.is("trigger: PERSON far out", x.trigger(far, 1), NONE);
        }
        Due.is("trigger: no such PERSON cancels none", x.state(0, 0), READY);
        Due.is("trigger: PERSON 7", x.trigger(7, NONE), 1);
        Due.is("trigger: PERSON 0", x.trigger(0, NONE), 2);
    }

    private static void triggerNoSuchGroup() {
        JobStates x = withJobs(1);
        x.trigger(0, 0);
        x.trigger(0, 3);
        Due.is("trigger: GROUP -2", x.trigger(0, -2), NONE);
        Due.is("trigger: GROUP 4", x.trigger(0, 4), NONE);
        for (int far : FAR_OUT) {
            Due.is("trigger: GROUP far out", x.trigger(0, far), NONE);
        }
        Due.is("trigger: no such GROUP cancels none", x.verdict(0) + x.verdict(1), 0);
        Due.is("trigger: in none", x.trigger(0, NONE), 2);
        Due.is("trigger: GROUP 0", x.trigger(0, 0), 3);
        Due.is("trigger: GROUP 3", x.trigger(0, 3), 4);
        Due.is("trigger: both cancelled theirs", x.verdict(0) + x.verdict(1), 6);
    }

    // Promise 7: "- 1 if there are none such, it doesn't want APPROVAL, or is at an END"

    private static void approveNoneSuch() {
        JobStates x = new JobStates();
        Due.is("approve: no run", x.approve(0, 0, 1), -1);
        x.job(0, 0, 0, false, true);
        x.trigger(4, NONE);
        Due.is("approve: run -1", x.approve(-1, 0, 1), -1);
        Due.is("approve: run 1 of 1", x.approve(1, 0, 1), -1);
        Due.is("approve: job -1", x.approve(0, -1, 1), -1);
        Due.is("approve: job 1 of 1", x.approve(0, 1, 1), -1);
        Due.is("approve: person -1", x.approve(0, 0, -1), -1);
        Due.is("approve: person 8", x.approve(0, 0, 8), -1);
        for (int far : FAR_OUT) {
            Due.is("approve: run far out", x.approve(far, 0, 1), -1);
            Due.is("approve: job far out", x.approve(0, far, 1), -1);
            Due.is("approve: person far out", x.approve(0, 0, far), -1);
        }
        // A shift by 32 is one by 0: such a person must not come round to another one.
        Due.is("approve: person 32", x.approve(0, 0, 32), -1);
        Due.is("approve: person 33", x.approve(0, 0, 33), -1);
        Due.is("approve: none of these approved", x.state(0, 0), WAITS);
        Due.is("approve: person 0", x.approve(0, 0, 0), 1);
        Due.is("approve: person 7", x.approve(0, 0, 7), 1);
        Due.is("approve: persons 0 and 7 did", x.state(0, 0), READY);
    }

    private static void approveNotWanted() {
        JobStates x = withJobs(1);
        x.job(0, 0, 0, false, true);
        x.trigger(0, NONE);
        Due.is("approve: not wanted", x.approve(0, 0, 1), -1);
        Due.is("approve: wanted", x.approve(0, 1, 1), 1);
    }

    private static void approveAtAnEnd() {
        for (int state = WAITS; state <= CANCELLED; state++) {
            JobStates x = withSecondAt(state, pair(true));
            boolean end = state >= DONE;
            Due.is("approve: new one at " + state, x.approve(0, 1, 3), end ? -1 : 1);
            Due.is("approve: own run at " + state, x.approve(0, 1, 0), end ? -1 : -2);
            Due.is("approve: known one at " + state, x.approve(0, 1, 1), end ? -1 : 0);
        }
    }

    // "else - 2 if that PERSON triggered the RUN"

    private static void approveOwnRun() {
        for (int person = 0; person < 8; person++) {
            JobStates x = new JobStates();
            x.job(0, 0, 0, false, true);
            x.trigger(person, NONE);
            x.trigger((person + 1) % 8, NONE);
            Due.is("approve: own run, person " + person, x.approve(0, 0, person), -2);
            Due.is("approve: own run, once more", x.approve(0, 0, person), -2);
            Due.is("approve: another's run, person " + person, x.approve(1, 0, person), 1);
        }
    }

    // "else 0 if that PERSON has already"

    private static void approveAlready() {
        JobStates x = new JobStates();
        x.job(0, 0, 0, false, true);
        x.job(0, 0, 0, false, true);
        x.trigger(0, NONE);
        x.trigger(0, NONE);
        Due.is("approve: first", x.approve(0, 0, 1), 1);
        Due.is("approve: already", x.approve(0, 0, 1), 0);
        Due.is("approve: not already for another job", x.approve(0, 1, 1), 1);
        Due.is("approve: not already for another run", x.approve(1, 0, 1), 1);
        Due.is("approve: not already by another person", x.approve(0, 0, 2), 1);
        Due.is("approve: already, when it is ready", x.approve(0, 0, 1), 0);
        for (int person = 3; person < 8; person++) {
            Due.is("approve: more than two", x.approve(0, 0, person), 1);
            Due.is("approve: more than two, already", x.approve(0, 0, person), 0);
        }
    }

    // "(two different ones make it APPROVED)"

    private static void approvedByTwo() {
        for (int first = 0; first < 8; first++) {
            for (int second = 0; second < 8; second++) {
                JobStates x = oneOf(0, 0, false, true);
                x.approve(0, 0, first);
                x.approve(0, 0, second);
                boolean two = first != second && first != 0 && second != 0;
                Due.is("approved by " + first + " and " + second, x.state(0, 0), two ? READY : WAITS);
            }
        }
    }

    private static void approveTellsTheFirstReason() {
        JobStates x = withJobs(1);
        x.job(0, 0, 0, false, true);
        x.trigger(1, NONE);
        Due.is("approve: own run and not wanted", x.approve(0, 0, 1), -1);
        Due.is("approve: own run and no such job", x.approve(0, 2, 1), -1);
        Due.is("approve: own run", x.approve(0, 1, 1), -2);
    }

    // Promise 8: "the RUN and JOB as 12 times the RUN, and the JOB"

    private static void takeAs12TimesTheRun() {
        JobStates x = withJobs(12);
        x.runner(0);
        for (int run = 0; run < 10; run++) {
            x.trigger(0, NONE);
        }
        for (int place = 0; place < 120; place++) {
            Due.is("take: 12 times the run, and the job", x.take(0), place);
            Due.is("has: as take tells it", x.has(0), place);
            x.end(0, true, 0);
        }
        Due.is("take: after the last of all", x.take(0), NONE);
    }

    // "NONE if there is none, no such RUNNER, or it has one"

    private static void takeIfThereIsNone() {
        JobStates x = pair(false);
        Due.is("take: no run", x.take(0), NONE);
        x.trigger(0, NONE);
        x.runner(0);
        Due.is("take: one is ready", x.take(0), 0);
        Due.is("take: one runs, one waits", x.take(1), NONE);
        Due.is("take: none began", x.about(0, 1, 1), 0);
        JobStates empty = withRunners(new JobStates(), 1);
        empty.trigger(0, NONE);
        Due.is("take: a run without jobs", empty.take(0), NONE);
    }

    private static void takeNoSuchRunner() {
        JobStates x = withRunners(withJobs(3), 2);
        x.trigger(0, NONE);
        Due.is("take: runner -1", x.take(-1), NONE);
        Due.is("take: runner 2 of 2", x.take(2), NONE);
        for (int far : FAR_OUT) {
            Due.is("take: runner far out", x.take(far), NONE);
        }
        Due.is("take: none was taken", x.state(0, 0), READY);
        Due.is("take: runner 1 of 2", x.take(1), 0);
        Due.is("take: runner 0", x.take(0), 1);
    }

    private static void takeIfItHasOne() {
        JobStates x = withRunners(withJobs(2), 1);
        x.trigger(0, NONE);
        x.take(0);
        x.tick(5);
        Due.is("take: has one", x.take(0), NONE);
        x.tick(5);
        Due.is("take: has the one still", x.has(0), 0);
        x.tick(1);
        Due.is("take: a refused one is no beat", x.has(0), NONE);
        Due.is("take: a refused one began no try", x.about(0, 0, 1) + x.about(0, 1, 1), 1);
    }

    // Promise 9: "false if there is no such RUNNER, or it has no JOB"

    private static void beatNoSuchRunner() {
        JobStates x = oneThatRuns(0, 0);
        x.tick(1);
        Due.is("beat: runner -1", x.beat(-1), false);
        Due.is("beat: runner 1 of 1", x.beat(1), false);
        for (int far : FAR_OUT) {
            Due.is("beat: runner far out", x.beat(far), false);
        }
        x.tick(10);
        Due.is("beat: refused ones are none", x.has(0), NONE);
        x.take(0);
        x.tick(1);
        Due.is("beat: runner 0", x.beat(0), true);
        x.tick(10);
        Due.is("beat: runner 0's is one", x.has(0), 0);
    }

    private static void beatIfItHasNoJob() {
        JobStates x = oneOf(0, 0, false, false);
        Due.is("beat: none yet", x.beat(0), false);
        x.take(0);
        Due.is("beat: has one", x.beat(0), true);
        x.end(0, false, 0);
        Due.is("beat: none any more", x.beat(0), false);
        JobStates y = oneThatRuns(0, 0);
        y.cancel(0);
        Due.is("beat: its run was cancelled", y.beat(0), false);
    }

    // Promise 10: "false if there is no such RUNNER, or it has no JOB (any more): nothing is done"

    private static void endNoSuchRunner() {
        JobStates x = oneThatRuns(0, 0);
        Due.is("end: runner -1", x.end(-1, false, 1), false);
        Due.is("end: runner 1 of 1", x.end(1, false, 1), false);
        for (int far : FAR_OUT) {
            Due.is("end: runner far out", x.end(far, true, 1), false);
        }
        Due.is("end: nothing was done", x.state(0, 0), RUNS);
        Due.is("end: runner 0", x.end(0, true, 1), true);
    }

    private static void endIfItHasNoJob() {
        JobStates x = oneOf(0, 0, false, false);
        Due.is("end: none yet", x.end(0, true, 1), false);
        Due.is("end: none yet, still ready", x.state(0, 0), READY);
        x.take(0);
        Due.is("end: has one", x.end(0, true, 2), true);
        Due.is("end: none any more, not well", x.end(0, false, 3), false);
        Due.is("end: none any more, well", x.end(0, true, 4), false);
        Due.is("end: still done", x.state(0, 0), DONE);
        Due.is("end: still the artefact of its end", x.about(0, 0, 3), 2);
    }

    private static void endIfItHasItNoMore() {
        JobStates x = withRunners(withJobs(1), 2);
        x.trigger(0, NONE);
        x.take(0);
        x.tick(11);
        x.take(1);
        Due.is("end: another has it now", x.end(0, true, 5), false);
        Due.is("end: the other has it still", x.has(1), 0);
        Due.is("end: it runs still", x.state(0, 0), RUNS);
        Due.is("end: by the other", x.end(1, true, 6), true);
        Due.is("end: the other's artefact", x.about(0, 0, 3), 6);

        JobStates y = oneThatRuns(3, 1);
        y.tick(3);
        Due.is("end: after its limit", y.end(0, false, 5), false);
        Due.is("end: no second try that failed", y.state(0, 0), READY);
        JobStates z = oneThatRuns(0, 0);
        z.cancel(0);
        Due.is("end: after its run was cancelled", z.end(0, true, 5), false);
        Due.is("end: it stays cancelled", z.state(0, 0), CANCELLED);
    }

    // "with an ARTEFACT (an int)"

    private static void endTakesAnyArtefact() {
        int[] artefacts = {0, 1, -1, Integer.MIN_VALUE, Integer.MAX_VALUE};
        for (int artefact : artefacts) {
            JobStates x = oneThatRuns(0, 0);
            Due.is("end: with " + artefact, x.end(0, true, artefact), true);
            Due.is("about: artefact " + artefact, x.about(0, 0, 3), artefact);
        }
    }

    // Promise 11: "TIME goes on by n (0 .. 1000): the CLOCK; NONE if it isn't so"

    private static void tick0To1000() {
        JobStates x = new JobStates();
        Due.is("tick: -1", x.tick(-1), NONE);
        Due.is("tick: 1001", x.tick(1001), NONE);
        for (int far : FAR_OUT) {
            Due.is("tick: far out", x.tick(far), NONE);
        }
        Due.is("tick: 0", x.tick(0), 0);
        Due.is("tick: 1000", x.tick(1000), 1000);
        Due.is("tick: 1001 later", x.tick(1001), NONE);
        Due.is("tick: -1 later", x.tick(-1), NONE);
        Due.is("tick: 999", x.tick(999), 1999);
        Due.is("tick: 0 later", x.tick(0), 1999);

        JobStates y = oneThatRuns(1, 0);
        y.tick(-1);
        y.tick(1001);
        y.tick(0);
        Due.is("tick: refused ones and 0 change nothing", y.state(0, 0), RUNS);
        y.tick(1);
        Due.is("tick: 1 does", y.state(0, 0), FAILED);
    }

    // Promise 12: "false if there is none such, it is OVER, or was"

    private static void cancelNoneSuch() {
        JobStates x = withJobs(1);
        Due.is("cancel: no run", x.cancel(0), false);
        x.trigger(0, NONE);
        x.trigger(0, NONE);
        Due.is("cancel: run -1", x.cancel(-1), false);
        Due.is("cancel: run 2 of 2", x.cancel(2), false);
        for (int far : FAR_OUT) {
            Due.is("cancel: run far out", x.cancel(far), false);
        }
        Due.is("cancel: none was", x.verdict(0) + x.verdict(1), 0);
        Due.is("cancel: run 1 of 2", x.cancel(1), true);
        Due.is("cancel: not the other", x.verdict(0), 0);
        Due.is("cancel: run 0", x.cancel(0), true);
    }

    private static void cancelIfOver() {
        for (int well = 0; well < 2; well++) {
            JobStates x = oneThatRuns(0, 0);
            x.end(0, well == 1, 0);
            Due.is("cancel: over", x.cancel(0), false);
            Due.is("cancel: over, the verdict stays", x.verdict(0), well == 1 ? 1 : 2);
            Due.is("cancel: over, so again may be", x.again(0), 1 - well);
        }
        JobStates x = withRunners(withJobs(2), 1);
        x.trigger(0, NONE);
        takeAndEnd(x, 0, true);
        Due.is("cancel: all but one at an end", x.cancel(0), true);
    }

    private static void cancelIfItWas() {
        JobStates x = withJobs(1);
        x.job(0, 0, 0, true, false);
        x.runner(0);
        x.trigger(0, 2);
        Due.is("cancel: first", x.cancel(0), true);
        Due.is("cancel: was, and isn't over", x.cancel(0), false);
        x.trigger(0, 2);
        x.trigger(0, 2);
        Due.is("cancel: was, by its group", x.cancel(1), false);
        Due.is("cancel: wasn't, the newest of the group", x.cancel(2), true);

        JobStates over = oneThatRuns(0, 0);
        over.end(0, false, 0);
        over.again(0);
        Due.is("cancel: over once, but not now", over.cancel(0), true);
        Due.is("cancel: over once, cancelled then", over.verdict(0), 3);
    }

    // Promise 13: "NONE if there is none such, or it isn't so"

    private static void againNoneSuch() {
        JobStates x = oneThatRuns(0, 0);
        x.end(0, false, 0);
        Due.is("again: run -1", x.again(-1), NONE);
        Due.is("again: run 1 of 1", x.again(1), NONE);
        for (int far : FAR_OUT) {
            Due.is("again: run far out", x.again(far), NONE);
        }
        Due.is("again: none waits again", x.state(0, 0), FAILED);
        Due.is("again: run 0", x.again(0), 1);
    }

    private static void againIfNotOver() {
        JobStates x = withRunners(withJobs(2), 2);
        x.trigger(0, NONE);
        x.take(0);
        x.take(1);
        x.end(0, false, 0);
        Due.is("again: one still runs", x.again(0), NONE);
        Due.is("again: what failed stays", x.state(0, 0), FAILED);
        x.end(1, true, 0);
        Due.is("again: over", x.again(0), 1);
        Due.is("again: not over any more", x.again(0), NONE);
    }

    private static void againIfCancelled() {
        JobStates x = new JobStates();
        x.job(0, 0, 0, true, false);
        x.job(0, 0, 0, false, false);
        x.runner(0);
        x.trigger(0, NONE);
        x.take(0);
        x.cancel(0);
        Due.is("again: cancelled, not over", x.again(0), NONE);
        x.end(0, false, 0);
        Due.is("again: cancelled and over", x.again(0), NONE);
        Due.is("again: cancelled, what failed stays", x.state(0, 0), FAILED);
        x.trigger(0, NONE);
        takeAndEnd(x, 0, false);
        takeAndEnd(x, 0, true);
        Due.is("again: not cancelled and over", x.again(1), 1);
    }

    // "FAILED and SKIPPED JOBS WAIT again, ...: how many"

    private static void againFailedAndSkippedAlone() {
        int[] ends = {DONE, FAILED, SKIPPED};
        int[] counts = {0, 1, 2};
        int[] states = {DONE, READY, WAITS};
        for (int i = 0; i < ends.length; i++) {
            JobStates x = withSecondAt(ends[i], pair(false));
            Due.is("again: the second at " + ends[i], x.again(0), counts[i]);
            Due.is("again: what was at " + ends[i], x.state(0, 1), states[i]);
            Due.is("again: the first", x.state(0, 0), ends[i] == SKIPPED ? READY : DONE);
            Due.is("again: the verdict after " + ends[i], x.verdict(0), ends[i] == DONE ? 1 : 0);
        }
        JobStates none = new JobStates();
        none.trigger(0, NONE);
        Due.is("again: no jobs", none.again(0), 0);
        JobStates all = withRunners(withJobs(12), 1);
        all.trigger(0, NONE);
        for (int i = 0; i < 12; i++) {
            takeAndEnd(all, 0, false);
        }
        Due.is("again: all twelve", all.again(0), 12);
    }

    // "as if they never had"

    private static void againAsIfTheyNeverHad() {
        JobStates x = oneThatRuns(4, 1);
        x.tick(4);
        x.take(0);
        x.tick(4);
        x.again(0);
        Due.is("again: ready", x.state(0, 0), READY);
        x.take(0);
        x.tick(3);
        Due.is("again: its time begins anew", x.state(0, 0), RUNS);
        x.tick(1);
        Due.is("again: its tries begin anew", x.state(0, 0), READY);
        takeAndEnd(x, 0, false);
        Due.is("again: and end anew", x.state(0, 0), FAILED);

        JobStates lost = oneThatRuns(0, 0);
        lost.tick(11);
        takeAndEnd(lost, 0, false);
        lost.again(0);
        lost.take(0);
        lost.tick(11);
        Due.is("again: lost for the first time anew", lost.state(0, 0), READY);
        lost.take(0);
        lost.tick(11);
        Due.is("again: lost for the second time anew", lost.state(0, 0), FAILED);
    }

    // "(APPROVALS stay.)"

    private static void againApprovalsStay() {
        JobStates x = withSecondAt(FAILED, pair(true));
        x.again(0);
        Due.is("again: approved", x.state(0, 1), READY);
        Due.is("again: who approved has already", x.approve(0, 1, 1), 0);
        JobStates half = pair(true);
        half.trigger(0, NONE);
        half.approve(0, 1, 5);
        takeAndEnd(half, 0, false);
        half.again(0);
        takeAndEnd(half, 0, true);
        Due.is("again: one approval isn't enough", half.state(0, 1), WAITS);
        Due.is("again: the one stays", half.approve(0, 1, 5), 0);
        Due.is("again: a second", half.approve(0, 1, 6), 1);
        Due.is("again: two are enough", half.state(0, 1), READY);
    }

    // Promise 14: "NONE if there is none such"

    private static void stateNoneSuch() {
        JobStates x = withJobs(2);
        Due.is("state: no run", x.state(0, 0), NONE);
        x.trigger(0, NONE);
        x.trigger(0, NONE);
        Due.is("state: run -1", x.state(-1, 0), NONE);
        Due.is("state: run 2 of 2", x.state(2, 0), NONE);
        Due.is("state: job -1", x.state(0, -1), NONE);
        Due.is("state: job 2 of 2", x.state(0, 2), NONE);
        Due.is("state: job 12 is no job of the next run", x.state(0, 12), NONE);
        for (int far : FAR_OUT) {
            Due.is("state: run far out", x.state(far, 0), NONE);
            Due.is("state: job far out", x.state(0, far), NONE);
        }
        Due.is("state: first of the first", x.state(0, 0), READY);
        Due.is("state: last of the last", x.state(1, 1), READY);
    }

    // Promise 15: "0 for another what, NONE if there is none such"

    private static void aboutNoneSuch() {
        JobStates x = withJobs(2);
        for (int what = -1; what <= 5; what++) {
            Due.is("about: no run", x.about(0, 0, what), NONE);
        }
        x.trigger(0, NONE);
        for (int what = -1; what <= 5; what++) {
            Due.is("about: run -1", x.about(-1, 0, what), NONE);
            Due.is("about: run 1 of 1", x.about(1, 0, what), NONE);
            Due.is("about: job -1", x.about(0, -1, what), NONE);
            Due.is("about: job 2 of 2", x.about(0, 2, what), NONE);
            Due.is("about: job 1 of 2", x.about(0, 1, what), what == 0 ? NONE : 0);
            for (int far : FAR_OUT) {
                Due.is("about: run far out", x.about(far, 0, what), NONE);
                Due.is("about: job far out", x.about(0, far, what), NONE);
            }
        }
    }

    private static void aboutAnotherWhat() {
        JobStates x = withRunners(withJobs(2), 2);
        x.needs(1, 0);
        x.trigger(0, NONE);
        x.take(1);
        x.tick(11);
        x.take(0);
        x.end(0, true, 9);
        x.take(1);
        x.tick(11);
        x.take(1);
        x.end(1, true, 8);
        int[] due = {NONE, 2, 1, 8, 9};
        for (int what = 0; what <= 4; what++) {
            Due.is("about: what " + what, x.about(0, 1, what), due[what]);
        }
        Due.is("about: what -1", x.about(0, 1, -1), 0);
        Due.is("about: what 5", x.about(0, 1, 5), 0);
        for (int far : FAR_OUT) {
            Due.is("about: what far out", x.about(0, 1, far), 0);
        }
    }

    // "0 its RUNNER (NONE)"

    private static void aboutItsRunner() {
        for (int state = WAITS; state <= CANCELLED; state++) {
            JobStates x = withSecondAt(state, pair(true));
            Due.is("about: its runner at " + state, x.about(0, 1, 0), state == RUNS ? 0 : NONE);
        }
        JobStates six = withRunners(withJobs(6), 6);
        six.trigger(0, NONE);
        for (int i = 0; i < 6; i++) {
            six.take(5 - i);
            Due.is("about: its runner", six.about(0, i, 0), 5 - i);
        }
    }

    // "1 how many TRIES began, 2 how often it was LOST (both in all)"

    private static void aboutTriesAndLosses() {
        JobStates x = oneOf(0, 1, false, false);
        Due.is("about: no try yet", x.about(0, 0, 1), 0);
        x.take(0);
        Due.is("about: a try that runs", x.about(0, 0, 1), 1);
        x.end(0, false, 0);
        Due.is("about: a try that failed", x.about(0, 0, 1), 1);
        x.take(0);
        x.tick(11);
        Due.is("about: a try that was lost", x.about(0, 0, 1), 2);
        Due.is("about: lost", x.about(0, 0, 2), 1);
        x.take(0);
        x.tick(11);
        Due.is("about: lost for good", x.about(0, 0, 2), 2);
        x.again(0);
        Due.is("about: tries in all, again", x.about(0, 0, 1), 3);
        Due.is("about: losses in all, again", x.about(0, 0, 2), 2);
        takeAndEnd(x, 0, true);
        Due.is("about: tries in all, done", x.about(0, 0, 1), 4);
        Due.is("about: losses in all, done", x.about(0, 0, 2), 2);
        x.trigger(0, NONE);
        Due.is("about: another run's tries", x.about(1, 0, 1), 0);
        Due.is("about: another run's losses", x.about(1, 0, 2), 0);
    }

    // "3 the ARTEFACT of the latest end that was well (0)"

    private static void aboutTheLatestEndThatWasWell() {
        JobStates x = oneThatRuns(0, 1);
        Due.is("about: no end yet", x.about(0, 0, 3), 0);
        x.end(0, false, 7);
        Due.is("about: an end that wasn't well", x.about(0, 0, 3), 0);
        x.take(0);
        x.end(0, true, -5);
        Due.is("about: an end that was well", x.about(0, 0, 3), -5);
        x.again(0);
        Due.is("about: it stays, again", x.about(0, 0, 3), -5);
        x.cancel(0);
        Due.is("about: it stays, cancel", x.about(0, 0, 3), -5);
    }

    // "4 the exclusive or of those of the JOBS that it NEEDS"

    private static void aboutExclusiveOr() {
        int[] artefacts = {Integer.MIN_VALUE, -1, Integer.MAX_VALUE, 0x55, 0x55, 1};
        JobStates x = withRunners(withJobs(8), 1);
        for (int earlier = 0; earlier < 5; earlier++) {
            x.needs(6, earlier);
        }
        x.trigger(0, NONE);
        Due.is("about: none ended yet", x.about(0, 6, 4), 0);
        int[] due = {Integer.MIN_VALUE, Integer.MAX_VALUE, 0, 0x55, 0, 0};
        for (int i = 0; i < artefacts.length; i++) {
            x.take(0);
            x.end(0, true, artefacts[i]);
            Due.is("about: exclusive or after " + i, x.about(0, 6, 4), due[i]);
        }
        Due.is("about: needs none", x.about(0, 7, 4), 0);
        Due.is("about: what is needed needs none", x.about(0, 0, 4), 0);

        JobStates failed = new JobStates();
        failed.job(0, 0, 0, false, false);
        failed.job(0, 0, 0, true, false);
        failed.needs(1, 0);
        failed.runner(0);
        failed.trigger(0, NONE);
        failed.take(0);
        failed.end(0, false, 44);
        Due.is("about: of one that failed", failed.about(0, 1, 4), 0);
    }

    // Promise 16: "NONE if there is none such"

    private static void verdictNoneSuch() {
        JobStates x = withJobs(1);
        Due.is("verdict: no run", x.verdict(0), NONE);
        x.trigger(0, NONE);
        Due.is("verdict: run -1", x.verdict(-1), NONE);
        Due.is("verdict: run 1 of 1", x.verdict(1), NONE);
        for (int far : FAR_OUT) {
            Due.is("verdict: run far out", x.verdict(far), NONE);
        }
        Due.is("verdict: run 0", x.verdict(0), 0);
        for (int i = 1; i < 10; i++) {
            x.trigger(0, NONE);
        }
        Due.is("verdict: run 9 of 10", x.verdict(9), 0);
        Due.is("verdict: run 10 of 10", x.verdict(10), NONE);
    }

    // Promise 17: "NONE if nothing, or there is none such"

    private static void hasNoneSuch() {
        JobStates x = withJobs(6);
        Due.is("has: no runner", x.has(0), NONE);
        withRunners(x, 6);
        x.trigger(0, NONE);
        for (int i = 0; i < 6; i++) {
            x.take(i);
        }
        Due.is("has: runner -1", x.has(-1), NONE);
        Due.is("has: runner 0", x.has(0), 0);
        Due.is("has: runner 5", x.has(5), 5);
        Due.is("has: runner 6", x.has(6), NONE);
        for (int far : FAR_OUT) {
            Due.is("has: runner far out", x.has(far), NONE);
        }
    }

    private static void hasNothing() {
        JobStates x = oneOf(0, 1, false, false);
        Due.is("has: nothing yet", x.has(0), NONE);
        x.take(0);
        Due.is("has: one", x.has(0), 0);
        x.end(0, false, 0);
        Due.is("has: nothing, ended not well", x.has(0), NONE);
        takeAndEnd(x, 0, true);
        Due.is("has: nothing, ended well", x.has(0), NONE);
    }
}
