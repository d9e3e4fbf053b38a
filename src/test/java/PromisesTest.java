/** Each promise of the document by itself, as it is used; PromisesBoundariesTest has its wrong inputs. */
public final class PromisesTest extends Given {
    private PromisesTest() {
    }

    public static void main(String[] args) {
        newObject();
        job();
        jobLabels();
        needs();
        needsOfSeveral();
        runner();
        lost();
        trigger();
        triggerInGroup();
        triggerInGroupOfOverRuns();
        approve();
        approveAtEnds();
        approvalHoldsBack();
        take();
        takeByShares();
        beat();
        end();
        endNotWell();
        tick();
        tickToLimit();
        tickToLoss();
        tickToLossBeforeLimit();
        cancel();
        cancelLeavesAlways();
        again();
        againForgetsTriesAndLosses();
        againKeepsApprovals();
        state();
        alwaysRunsAfterFailure();
        about();
        aboutArtefacts();
        verdict();
        has();
        Due.finish();
    }

    // Promise 1

    private static void newObject() {
        JobStates x = new JobStates();
        Due.is("NONE", JobStates.NONE, -1);
        Due.is("new: state", x.state(0, 0), NONE);
        Due.is("new: about", x.about(0, 0, 1), NONE);
        Due.is("new: verdict", x.verdict(0), NONE);
        Due.is("new: has", x.has(0), NONE);
        Due.is("new: take", x.take(0), NONE);
        Due.is("new: beat", x.beat(0), false);
        Due.is("new: end", x.end(0, true, 1), false);
        Due.is("new: cancel", x.cancel(0), false);
        Due.is("new: again", x.again(0), NONE);
        Due.is("new: approve", x.approve(0, 0, 0), -1);
        Due.is("new: needs", x.needs(1, 0), false);
        Due.is("new: clock", x.tick(0), 0);
        Due.is("new: first job", x.job(0, 0, 0, false, false), 0);
        Due.is("new: first runner", x.runner(0), 0);
        Due.is("new: first run", x.trigger(0, NONE), 0);
        JobStates other = new JobStates();
        Due.is("new: shares nothing with another", other.has(0), NONE);
        Due.is("new: has no run of another", other.verdict(0), NONE);
    }

    // Promise 2

    private static void job() {
        JobStates x = new JobStates();
        for (int i = 0; i < 12; i++) {
            Due.is("job: number", x.job(i, i, i % 4, false, false), i);
        }
        Due.is("job: a 13th", x.job(0, 0, 0, false, false), NONE);
        x.trigger(0, NONE);
        Due.is("job: the 12th is in a run", x.state(0, 11), READY);
        Due.is("job: no 13th is in a run", x.state(0, 12), NONE);

        JobStates y = withJobs(1);
        y.trigger(0, NONE);
        Due.is("job: after a run", y.job(0, 0, 0, false, false), NONE);
        y.trigger(0, NONE);
        Due.is("job: no second one in later runs", y.state(1, 1), NONE);
        Due.is("job: trigger refused keeps it open", refusedTriggerThenJob(), 0);
    }

    private static int refusedTriggerThenJob() {
        JobStates x = new JobStates();
        x.trigger(8, NONE);
        return x.job(0, 0, 0, false, false);
    }

    private static void jobLabels() {
        JobStates x = new JobStates();
        x.job(0x100, 0, 0, false, false);
        x.job(0xFFFFFF80, 0, 0, false, false);
        x.runner(0);
        x.runner(0x80);
        x.trigger(0, NONE);
        Due.is("job: label 8 means nothing", x.take(0), 0);
        x.end(0, true, 0);
        Due.is("job: label 7 is wanted", x.take(0), NONE);
        Due.is("job: labels beyond 7 are not", x.take(1), 1);
    }

    // Promise 3

    private static void needs() {
        JobStates x = withJobs(3);
        Due.is("needs: itself", x.needs(1, 1), false);
        Due.is("needs: a later one", x.needs(1, 2), false);
        Due.is("needs: job that isn't there", x.needs(3, 0), false);
        Due.is("needs: first", x.needs(2, 0), true);
        Due.is("needs: already", x.needs(2, 0), false);
        Due.is("needs: another", x.needs(2, 1), true);
        x.trigger(0, NONE);
        Due.is("needs: after a run", x.needs(1, 0), false);
        Due.is("needs: none of its own", x.state(0, 1), READY);
        Due.is("needs: it waits", x.state(0, 2), WAITS);
    }

    private static void needsOfSeveral() {
        JobStates x = withRunners(withJobs(4), 2);
        x.needs(2, 0);
        x.needs(2, 1);
        x.needs(3, 2);
        x.trigger(0, NONE);
        x.take(0);
        x.take(1);
        x.end(0, true, 0);
        Due.is("needs: one of two done", x.state(0, 2), WAITS);
        x.end(1, true, 0);
        Due.is("needs: both done", x.state(0, 2), READY);
        Due.is("needs: next in the chain waits", x.state(0, 3), WAITS);

        x.trigger(1, NONE);
        x.take(0);
        x.take(1);
        Due.is("needs: other run's are its own", x.has(1) >= 12, true);
        x.end(1, false, 0);
        Due.is("needs: one failed, the other not ended", x.state(1, 2), SKIPPED);
        Due.is("needs: skipped goes down the chain", x.state(1, 3), SKIPPED);
        Due.is("needs: what isn't needed goes on", x.state(1, 1), READY);
    }

    // Promise 4

    private static void runner() {
        JobStates x = new JobStates();
        x.job(3, 0, 0, false, false);
        for (int i = 0; i < 5; i++) {
            Due.is("runner: number", x.runner(i == 4 ? 0x102 : i), i);
        }
        Due.is("runner: the 6th", x.runner(-1), 5);
        Due.is("runner: a 7th", x.runner(3), NONE);
        x.trigger(0, NONE);
        x.trigger(0, NONE);
        for (int i = 0; i < 3; i++) {
            Due.is("runner: lacks a label", x.take(i), NONE);
        }
        Due.is("runner: has both labels", x.take(3), 0);
        Due.is("runner: label 8 is no other one", x.take(4), NONE);
        Due.is("runner: has all labels", x.take(5), 12);
        Due.is("runner: no 7th", x.take(6), NONE);

        JobStates late = withJobs(1);
        late.trigger(0, NONE);
        late.tick(50);
        Due.is("runner: after a run", late.runner(0), 0);
        Due.is("runner: takes", late.take(0), 0);
        late.tick(10);
        Due.is("runner: its beat is not old", late.has(0), 0);
    }

    // Promise 5

    private static void lost() {
        JobStates x = new JobStates();
        Due.is("lost: 0", x.lost(0), false);
        Due.is("lost: -1", x.lost(-1), false);
        Due.is("lost: 101", x.lost(101), false);
        Due.is("lost: at first 10, held", ticksUntilLost(NONE), 11);
        Due.is("lost: wrong one changes nothing", ticksUntilLost(101), 11);
        Due.is("lost: 1", ticksUntilLost(1), 2);
        Due.is("lost: 100", ticksUntilLost(100), 101);

        JobStates y = oneOf(0, 0, false, false);
        y.take(0);
        y.tick(8);
        Due.is("lost: lowered while it runs", y.lost(3), true);
        Due.is("lost: nothing before the clock goes on", y.tick(0) == 8 && y.state(0, 0) == RUNS, true);
        y.tick(1);
        Due.is("lost: lowered, at the next clock", y.state(0, 0), READY);
    }

    private static int ticksUntilLost(int setting) {
        JobStates x = oneOf(0, 0, false, false);
        x.lost(setting);
        x.take(0);
        int clock = 0;
        while (clock < 200 && x.state(0, 0) == RUNS) {
            clock = x.tick(1);
        }
        return clock;
    }

    // Promise 6

    private static void trigger() {
        JobStates x = withJobs(2);
        x.needs(1, 0);
        Due.is("trigger: refused ones are no runs", x.verdict(0), NONE);
        for (int i = 0; i < 10; i++) {
            Due.is("trigger: number", x.trigger(i % 8, NONE), i);
            Due.is("trigger: what needs nothing", x.state(i, 0), READY);
            Due.is("trigger: what needs", x.state(i, 1), WAITS);
        }
        Due.is("trigger: an 11th", x.trigger(0, 0), NONE);
        Due.is("trigger: no 11th", x.verdict(10), NONE);
        for (int i = 0; i < 10; i++) {
            Due.is("trigger: in no group none is cancelled", x.state(i, 0), READY);
        }
    }

    private static void triggerInGroup() {
        JobStates x = withRunners(withJobs(1), 1);
        x.trigger(0, 3);
        x.trigger(1, 2);
        x.trigger(2, NONE);
        x.take(0);
        Due.is("trigger: wrong person in a group", x.trigger(8, 3), NONE);
        Due.is("trigger: a refused one cancels none", x.state(0, 0), RUNS);
        Due.is("trigger: in a group", x.trigger(0, 3), 3);
        Due.is("trigger: earlier of the group", x.state(0, 0), CANCELLED);
        Due.is("trigger: its runner is free", x.has(0), NONE);
        Due.is("trigger: earlier's verdict", x.verdict(0), 3);
        Due.is("trigger: other group stays", x.state(1, 0), READY);
        Due.is("trigger: no group stays", x.state(2, 0), READY);
        Due.is("trigger: itself stays", x.state(3, 0), READY);
        for (int i = 4; i < 10; i++) {
            x.trigger(0, NONE);
        }
        Due.is("trigger: an 11th in a group", x.trigger(0, 3), NONE);
        Due.is("trigger: the 11th cancels none", x.state(3, 0), READY);
    }

    private static void triggerInGroupOfOverRuns() {
        JobStates x = withRunners(withJobs(1), 1);
        x.trigger(0, 0);
        x.take(0);
        x.end(0, false, 0);
        x.trigger(0, 0);
        Due.is("trigger: one that is over isn't cancelled", x.verdict(0), 2);
        Due.is("trigger: over, again", x.again(0), 1);
        x.trigger(0, 0);
        Due.is("trigger: all earlier ones, first", x.verdict(0), 3);
        Due.is("trigger: all earlier ones, second", x.verdict(1), 3);
    }

    // Promise 7

    private static void approve() {
        JobStates x = new JobStates();
        x.job(0, 0, 0, false, true);
        x.job(0, 0, 0, false, false);
        x.trigger(3, NONE);
        Due.is("approve: not wanted", x.approve(0, 1, 1), -1);
        Due.is("approve: not wanted, own run", x.approve(0, 1, 3), -1);
        Due.is("approve: own run", x.approve(0, 0, 3), -2);
        Due.is("approve: own run, still", x.approve(0, 0, 3), -2);
        Due.is("approve: first", x.approve(0, 0, 0), 1);
        Due.is("approve: first, twice", x.approve(0, 0, 0), 0);
        Due.is("approve: one is too few", x.state(0, 0), WAITS);
        Due.is("approve: second", x.approve(0, 0, 7), 1);
        Due.is("approve: two are enough", x.state(0, 0), READY);
        Due.is("approve: a third", x.approve(0, 0, 5), 1);
        Due.is("approve: a third, twice", x.approve(0, 0, 5), 0);
        x.trigger(0, NONE);
        Due.is("approve: other run has none", x.state(1, 0), WAITS);
        Due.is("approve: other run, its own person", x.approve(1, 0, 0), -2);
        Due.is("approve: other run, other person", x.approve(1, 0, 3), 1);
    }

    private static void approveAtEnds() {
        JobStates x = oneOf(0, 0, false, true);
        x.approve(0, 0, 1);
        x.approve(0, 0, 2);
        x.take(0);
        Due.is("approve: while it runs", x.approve(0, 0, 3), 1);
        x.end(0, true, 0);
        Due.is("approve: at an end", x.approve(0, 0, 4), -1);
        Due.is("approve: at an end, own run", x.approve(0, 0, 0), -1);
        Due.is("approve: at an end, already", x.approve(0, 0, 1), -1);

        JobStates y = oneOf(0, 0, false, true);
        y.cancel(0);
        Due.is("approve: cancelled", y.approve(0, 0, 1), -1);
    }

    private static void approvalHoldsBack() {
        JobStates x = new JobStates();
        x.job(0, 0, 0, false, false);
        x.job(0, 0, 0, true, true);
        x.needs(1, 0);
        x.runner(0);
        x.trigger(0, NONE);
        x.approve(0, 1, 1);
        x.approve(0, 1, 2);
        Due.is("approve: needs still hold it back", x.state(0, 1), WAITS);
        x.cancel(0);
        Due.is("approve: always, approved, cancelled run", x.state(0, 1), READY);

        x.trigger(0, NONE);
        x.cancel(1);
        Due.is("approve: always ones wait for it, too", x.state(1, 1), WAITS);
        Due.is("approve: so the run isn't over", x.verdict(1), 0);
        x.approve(1, 1, 1);
        x.approve(1, 1, 2);
        Due.is("approve: then it is ready", x.state(1, 1), READY);
    }

    // Promise 8

    private static void take() {
        JobStates x = withJobs(2);
        x.runner(0);
        Due.is("take: no run", x.take(0), NONE);
        x.trigger(0, NONE);
        x.trigger(0, NONE);
        Due.is("take: lesser run, lesser job", x.take(0), 0);
        Due.is("take: it runs", x.state(0, 0), RUNS);
        Due.is("take: has one", x.take(0), NONE);
        x.end(0, true, 0);
        Due.is("take: lesser run first", x.take(0), 1);
        x.end(0, true, 0);
        Due.is("take: then the next run", x.take(0), 12);
        x.runner(0);
        Due.is("take: by another runner", x.take(1), 13);
        x.runner(0);
        Due.is("take: none is ready", x.take(2), NONE);

        JobStates y = oneOf(0, 0, false, false);
        y.tick(100);
        y.take(0);
        y.tick(10);
        Due.is("take: is a beat", y.state(0, 0), RUNS);
        y.tick(1);
        Due.is("take: is the only beat", y.state(0, 0), READY);
    }

    private static void takeByShares() {
        JobStates x = new JobStates();
        x.job(0, 0, 0, false, false);
        x.job(1, 0, 0, false, false);
        for (int i = 0; i < 6; i++) {
            x.runner(i < 5 ? 0 : 1);
        }
        x.trigger(5, NONE);
        x.trigger(5, NONE);
        x.trigger(2, NONE);
        x.trigger(2, NONE);
        x.trigger(7, NONE);
        Due.is("take: of equal ones the lesser person", x.take(0), 24);
        Due.is("take: then one who has none", x.take(1), 0);
        Due.is("take: then the last who has none", x.take(2), 48);
        Due.is("take: all have one: lesser person, lesser run", x.take(3), 36);
        Due.is("take: counts over all runs", x.take(4), 12);
        x.end(2, true, 0);
        Due.is("take: fewest, by what runs now", x.take(5), 49);
        x.end(3, true, 0);
        Due.is("take: none without the label", x.take(3), NONE);
        x.end(5, true, 0);
        x.end(1, true, 0);
        x.end(0, true, 0);
        Due.is("take: none run for person 2", x.take(5), 25);
    }

    // Promise 9

    private static void beat() {
        JobStates x = oneOf(0, 0, false, false);
        Due.is("beat: has no job", x.beat(0), false);
        x.take(0);
        x.tick(10);
        Due.is("beat", x.beat(0), true);
        x.tick(10);
        Due.is("beat: held it", x.state(0, 0), RUNS);
        x.tick(1);
        Due.is("beat: too long ago", x.state(0, 0), READY);
        Due.is("beat: lost its job", x.beat(0), false);
        x.take(0);
        x.end(0, true, 0);
        Due.is("beat: ended its job", x.beat(0), false);
    }

    // Promise 10

    private static void end() {
        JobStates x = oneOf(0, 0, false, false);
        x.runner(0);
        Due.is("end: has no job", x.end(0, true, 3), false);
        Due.is("end: nothing was done", x.state(0, 0), READY);
        x.take(0);
        Due.is("end: another runner", x.end(1, true, 3), false);
        Due.is("end: still runs", x.state(0, 0), RUNS);
        Due.is("end: well", x.end(0, true, 3), true);
        Due.is("end: done", x.state(0, 0), DONE);
        Due.is("end: runner is free", x.has(0), NONE);
        Due.is("end: no job any more", x.end(0, false, 4), false);
        Due.is("end: stays done", x.state(0, 0), DONE);
        Due.is("end: keeps the artefact", x.about(0, 0, 3), 3);

        JobStates y = oneOf(0, 0, false, false);
        y.take(0);
        y.tick(11);
        Due.is("end: lost before", y.end(0, true, 3), false);
        Due.is("end: lost stays ready", y.state(0, 0), READY);
    }

    private static void endNotWell() {
        for (int retries = 0; retries <= 3; retries++) {
            JobStates x = oneOf(0, retries, false, false);
            for (int i = 0; i < retries; i++) {
                x.take(0);
                Due.is("end: not well", x.end(0, false, 9), true);
                Due.is("end: may be tried again", x.state(0, 0), READY);
                Due.is("end: runner is free", x.has(0), NONE);
            }
            x.take(0);
            x.end(0, false, 9);
            Due.is("end: retries used up", x.state(0, 0), FAILED);
            Due.is("end: not well has no artefact", x.about(0, 0, 3), 0);
            Due.is("end: failed isn't taken", x.take(0), NONE);
        }
        JobStates y = oneOf(0, 1, false, false);
        y.take(0);
        y.tick(11);
        y.take(0);
        y.end(0, false, 0);
        Due.is("end: being lost is no try that failed", y.state(0, 0), READY);
    }

    // Promise 11

    private static void tick() {
        JobStates x = new JobStates();
        Due.is("tick: -1", x.tick(-1), NONE);
        Due.is("tick: 1001", x.tick(1001), NONE);
        Due.is("tick: wrong ones change nothing", x.tick(0), 0);
        Due.is("tick: 1", x.tick(1), 1);
        Due.is("tick: 1000", x.tick(1000), 1001);

        JobStates y = oneOf(0, 0, false, false);
        y.lost(100);
        y.take(0);
        y.tick(-1);
        y.tick(1001);
        Due.is("tick: wrong ones lose nothing", y.state(0, 0), RUNS);
        Due.is("tick: beyond a loss", y.tick(1000), 1000);
        Due.is("tick: lost once only", y.about(0, 0, 2), 1);
        Due.is("tick: the same clock for all", y.tick(5), 1005);
    }

    private static void tickToLimit() {
        JobStates x = oneOf(3, 1, false, false);
        x.tick(7);
        x.take(0);
        x.tick(2);
        Due.is("tick: below the limit", x.state(0, 0), RUNS);
        x.tick(1);
        Due.is("tick: at the limit", x.state(0, 0), READY);
        Due.is("tick: runner is free", x.has(0), NONE);
        Due.is("tick: no loss", x.about(0, 0, 2), 0);
        x.tick(100);
        Due.is("tick: what is ready has no limit", x.state(0, 0), READY);
        x.take(0);
        x.tick(2);
        x.beat(0);
        Due.is("tick: runs since it was taken", x.state(0, 0), RUNS);
        x.tick(1);
        Due.is("tick: a beat is no help, retries used up", x.state(0, 0), FAILED);

        JobStates y = oneOf(Integer.MAX_VALUE, 0, false, false);
        y.lost(100);
        y.take(0);
        y.tick(100);
        Due.is("tick: far limit", y.state(0, 0), RUNS);

        JobStates z = oneOf(0, 0, false, false);
        z.lost(100);
        z.take(0);
        z.tick(100);
        Due.is("tick: limit 0 is none", z.state(0, 0), RUNS);

        JobStates both = oneOf(1, 1, false, false);
        both.take(0);
        both.end(0, false, 0);
        both.take(0);
        both.tick(1);
        Due.is("tick: limit counts with what ended not well", both.state(0, 0), FAILED);
    }

    private static void tickToLoss() {
        JobStates x = withJobs(2);
        x.needs(1, 0);
        withRunners(x, 2);
        x.trigger(0, NONE);
        x.take(0);
        x.tick(10);
        Due.is("tick: not yet lost", x.state(0, 0), RUNS);
        x.tick(1);
        Due.is("tick: lost for the first time", x.state(0, 0), READY);
        Due.is("tick: runner has it no more", x.has(0), NONE);
        Due.is("tick: on no runner", x.about(0, 0, 0), NONE);
        x.take(1);
        x.tick(11);
        Due.is("tick: lost for the second time", x.state(0, 0), FAILED);
        Due.is("tick: what needs it", x.state(0, 1), SKIPPED);
        Due.is("tick: over", x.verdict(0), 2);
        Due.is("tick: lost twice", x.about(0, 0, 2), 2);

        JobStates y = oneOf(0, 3, false, false);
        y.take(0);
        y.tick(11);
        y.take(0);
        y.tick(11);
        Due.is("tick: retries don't help what is lost", y.state(0, 0), FAILED);
    }

    private static void tickToLossBeforeLimit() {
        JobStates x = oneOf(5, 0, false, false);
        x.lost(4);
        x.take(0);
        x.tick(5);
        Due.is("tick: lost and at its limit: lost", x.state(0, 0), READY);
        Due.is("tick: it counts as lost", x.about(0, 0, 2), 1);

        JobStates y = oneOf(4, 0, false, false);
        y.lost(4);
        y.take(0);
        y.tick(9);
        Due.is("tick: limit comes first", y.state(0, 0), FAILED);
        Due.is("tick: it isn't lost", y.about(0, 0, 2), 0);
    }

    // Promise 12

    private static void cancel() {
        JobStates x = withRunners(withJobs(4), 2);
        x.needs(3, 2);
        x.trigger(0, 1);
        x.take(0);
        x.end(0, true, 4);
        x.take(0);
        x.take(1);
        x.end(1, false, 0);
        x.trigger(1, 2);
        Due.is("cancel", x.cancel(0), true);
        Due.is("cancel: done stays", x.state(0, 0), DONE);
        Due.is("cancel: what runs", x.state(0, 1), CANCELLED);
        Due.is("cancel: failed stays", x.state(0, 2), FAILED);
        Due.is("cancel: skipped stays", x.state(0, 3), SKIPPED);
        Due.is("cancel: runner is free", x.has(0), NONE);
        Due.is("cancel: runner can't end it", x.end(0, true, 0), false);
        Due.is("cancel: other run stays", x.state(1, 0), READY);
        Due.is("cancel: was", x.cancel(0), false);
        Due.is("cancel: what is ready", x.cancel(1) && x.state(1, 0) == CANCELLED, true);
        Due.is("cancel: what waits", x.state(1, 3), CANCELLED);
        Due.is("cancel: cancelled isn't taken", x.take(0), NONE);

        JobStates y = oneOf(0, 0, false, false);
        y.take(0);
        y.end(0, false, 0);
        Due.is("cancel: over", y.cancel(0), false);
        Due.is("cancel: over keeps its verdict", y.verdict(0), 2);
        y.again(0);
        Due.is("cancel: over once, done again", y.cancel(0), true);
    }

    private static void cancelLeavesAlways() {
        JobStates x = new JobStates();
        x.job(0, 0, 1, true, false);
        x.job(0, 0, 0, true, false);
        x.job(0, 0, 0, false, false);
        x.job(0, 0, 0, true, false);
        x.needs(3, 2);
        withRunners(x, 2);
        x.trigger(0, NONE);
        x.take(0);
        x.cancel(0);
        Due.is("cancel: always, runs", x.state(0, 0), RUNS);
        Due.is("cancel: always, its runner has it", x.has(0), 0);
        Due.is("cancel: always, ready", x.state(0, 1), READY);
        Due.is("cancel: not always", x.state(0, 2), CANCELLED);
        Due.is("cancel: always, waited", x.state(0, 3), READY);
        Due.is("cancel: not over", x.verdict(0), 0);
        Due.is("cancel: was, though not over", x.cancel(0), false);
        x.end(0, false, 0);
        Due.is("cancel: always is tried again", x.take(0), 0);
        x.end(0, true, 0);
        x.take(0);
        x.end(0, true, 0);
        x.take(0);
        x.end(0, false, 0);
        Due.is("cancel: over at last", x.verdict(0), 3);
    }

    // Promise 13

    private static void again() {
        JobStates x = withRunners(withJobs(5), 1);
        x.needs(2, 1);
        x.needs(3, 2);
        x.trigger(0, NONE);
        Due.is("again: not over", x.again(0), NONE);
        x.take(0);
        x.end(0, true, 6);
        x.take(0);
        x.end(0, false, 0);
        Due.is("again: one not ended", x.again(0), NONE);
        x.take(0);
        x.end(0, true, 8);
        Due.is("again: one failed, two skipped", x.again(0), 3);
        Due.is("again: done stays", x.state(0, 0), DONE);
        Due.is("again: keeps its artefact", x.about(0, 0, 3), 6);
        Due.is("again: failed", x.state(0, 1), READY);
        Due.is("again: skipped", x.state(0, 2), WAITS);
        Due.is("again: skipped, farther", x.state(0, 3), WAITS);
        Due.is("again: isn't over", x.verdict(0), 0);
        Due.is("again: at once once more", x.again(0), NONE);
        for (int i = 1; i < 4; i++) {
            Due.is("again: is taken", x.take(0), i);
            x.end(0, true, 1);
        }
        Due.is("again: went well", x.verdict(0), 1);
        Due.is("again: nothing to do", x.again(0), 0);
        Due.is("again: nothing done", x.verdict(0), 1);

        x.trigger(0, NONE);
        x.cancel(1);
        Due.is("again: cancelled", x.again(1), NONE);
        Due.is("again: no jobs", againOfNoJobs(), 0);
    }

    private static int againOfNoJobs() {
        JobStates x = new JobStates();
        x.trigger(0, NONE);
        return x.again(0);
    }

    private static void againForgetsTriesAndLosses() {
        JobStates x = oneOf(0, 1, false, false);
        x.take(0);
        x.end(0, false, 0);
        x.take(0);
        x.tick(11);
        x.take(0);
        x.tick(11);
        Due.is("again: failed before", x.state(0, 0), FAILED);
        x.again(0);
        x.take(0);
        x.end(0, false, 0);
        Due.is("again: tries are forgotten", x.state(0, 0), READY);
        x.take(0);
        x.tick(11);
        Due.is("again: losses are forgotten", x.state(0, 0), READY);
        Due.is("again: tries in all", x.about(0, 0, 1), 5);
        Due.is("again: losses in all", x.about(0, 0, 2), 3);
        x.take(0);
        x.end(0, false, 0);
        Due.is("again: tries count anew", x.state(0, 0), FAILED);
    }

    private static void againKeepsApprovals() {
        JobStates x = new JobStates();
        x.job(0, 0, 0, false, false);
        x.job(0, 0, 0, false, true);
        x.needs(1, 0);
        x.runner(0);
        x.trigger(0, NONE);
        x.approve(0, 1, 1);
        x.take(0);
        x.end(0, false, 0);
        Due.is("again: with a skipped one", x.again(0), 2);
        Due.is("again: approval stays", x.approve(0, 1, 1), 0);
        x.approve(0, 1, 2);
        x.take(0);
        x.end(0, true, 0);
        x.take(0);
        x.end(0, false, 0);
        x.again(0);
        Due.is("again: approved stays", x.state(0, 1), READY);
    }

    // Promise 14

    private static void state() {
        JobStates x = withJobs(3);
        x.needs(1, 0);
        x.needs(2, 1);
        x.runner(0);
        x.trigger(0, NONE);
        Due.is("state: waits", x.state(0, 1), 0);
        Due.is("state: ready", x.state(0, 0), 1);
        x.take(0);
        Due.is("state: runs", x.state(0, 0), 2);
        x.end(0, true, 0);
        Due.is("state: done", x.state(0, 0), 3);
        x.take(0);
        x.end(0, false, 0);
        Due.is("state: failed", x.state(0, 1), 4);
        Due.is("state: skipped", x.state(0, 2), 5);
        x.trigger(0, NONE);
        x.cancel(1);
        Due.is("state: cancelled", x.state(1, 0), 6);
    }

    private static void alwaysRunsAfterFailure() {
        JobStates x = withJobs(2);
        x.job(0, 0, 0, true, false);
        x.job(0, 0, 0, false, false);
        x.needs(2, 0);
        x.needs(2, 1);
        x.needs(3, 2);
        withRunners(x, 2);
        x.trigger(0, NONE);
        x.take(0);
        x.take(1);
        x.end(0, false, 0);
        Due.is("state: always waits for all", x.state(0, 2), WAITS);
        x.end(1, true, 0);
        Due.is("state: always is ready after a failure", x.state(0, 2), READY);
        Due.is("state: what needs it waits", x.state(0, 3), WAITS);
        x.take(0);
        x.end(0, true, 0);
        Due.is("state: what needs it alone goes on", x.state(0, 3), READY);
    }

    // Promise 15

    private static void about() {
        JobStates x = withJobs(1);
        withRunners(x, 2);
        x.trigger(0, NONE);
        x.trigger(1, NONE);
        Due.is("about: no runner yet", x.about(0, 0, 0), NONE);
        Due.is("about: no tries yet", x.about(0, 0, 1), 0);
        Due.is("about: not lost yet", x.about(0, 0, 2), 0);
        Due.is("about: no artefact yet", x.about(0, 0, 3), 0);
        x.take(1);
        Due.is("about: its runner", x.about(0, 0, 0), 1);
        Due.is("about: a try began", x.about(0, 0, 1), 1);
        Due.is("about: not the other run's", x.about(1, 0, 1), 0);
        x.tick(11);
        Due.is("about: lost", x.about(0, 0, 2), 1);
        Due.is("about: lost, no runner", x.about(0, 0, 0), NONE);
        x.take(0);
        Due.is("about: another runner", x.about(0, 0, 0), 0);
        Due.is("about: another try", x.about(0, 0, 1), 2);
        x.end(0, true, -7);
        Due.is("about: ended, no runner", x.about(0, 0, 0), NONE);
        Due.is("about: artefact", x.about(0, 0, 3), -7);
    }

    private static void aboutArtefacts() {
        JobStates x = withRunners(withJobs(4), 1);
        x.needs(3, 0);
        x.needs(3, 2);
        x.trigger(0, NONE);
        x.take(0);
        x.end(0, true, 0x55);
        Due.is("about: of one that it needs", x.about(0, 3, 4), 0x55);
        x.take(0);
        x.end(0, true, 0x1000);
        Due.is("about: not of one that it doesn't", x.about(0, 3, 4), 0x55);
        x.take(0);
        x.end(0, true, Integer.MIN_VALUE + 0x0F);
        Due.is("about: exclusive or", x.about(0, 3, 4), Integer.MIN_VALUE + 0x5A);
        Due.is("about: none needed", x.about(0, 1, 4), 0);
        Due.is("about: its own is apart", x.about(0, 3, 3), 0);
        x.trigger(0, NONE);
        Due.is("about: not of another run", x.about(1, 3, 4), 0);
    }

    // Promise 16

    private static void verdict() {
        JobStates x = withRunners(withJobs(2), 1);
        x.trigger(0, NONE);
        Due.is("verdict: not begun", x.verdict(0), 0);
        x.take(0);
        x.end(0, false, 0);
        Due.is("verdict: failed, not over", x.verdict(0), 0);
        x.take(0);
        Due.is("verdict: failed, one runs", x.verdict(0), 0);
        x.end(0, true, 0);
        Due.is("verdict: failed", x.verdict(0), 2);
        x.trigger(0, NONE);
        x.take(0);
        x.end(0, true, 0);
        x.take(0);
        x.end(0, true, 0);
        Due.is("verdict: went well", x.verdict(1), 1);
        x.trigger(0, NONE);
        x.take(0);
        x.end(0, false, 0);
        x.cancel(2);
        Due.is("verdict: cancelled goes before failed", x.verdict(2), 3);
        JobStates none = new JobStates();
        none.trigger(0, NONE);
        Due.is("verdict: no jobs", none.verdict(0), 1);
    }

    // Promise 17

    private static void has() {
        JobStates x = withJobs(12);
        withRunners(x, 2);
        x.trigger(0, NONE);
        x.trigger(1, NONE);
        Due.is("has: nothing yet", x.has(0), NONE);
        x.take(0);
        x.take(1);
        Due.is("has: first", x.has(0), 0);
        Due.is("has: second", x.has(1), 12);
        for (int i = 1; i < 12; i++) {
            x.end(1, true, 0);
            x.take(1);
            Due.is("has: 12 times the run, and the job", x.has(1), 12 + i);
        }
        x.end(1, true, 0);
        Due.is("has: ended", x.has(1), NONE);
        x.tick(11);
        Due.is("has: lost", x.has(0), NONE);
    }
}
