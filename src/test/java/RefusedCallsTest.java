import java.util.ArrayList;
import java.util.List;
import java.util.function.Predicate;
import java.util.function.ToIntFunction;

/**
 * A refused call, and one that only asks, changes nothing: set anywhere into a long story of calls,
 * it leaves all later answers as they are without it.
 */
public final class RefusedCallsTest extends Given {
    private static final int JOBS = 5;
    private static final int RUNNERS = 6;
    private static final int TRIGGERS = 10;

    private final List<ToIntFunction<JobStates>> story = new ArrayList<>();
    private final List<Probe> probes = new ArrayList<>();
    private int refusals = 0;

    /** A call that tells whether it was refused (or only asks), and whether it is so at all times. */
    private record Probe(String name, boolean always, Predicate<JobStates> call) {
    }

    private RefusedCallsTest() {
        buildInStory();
        runInStory();
        fillInStory();
        callsRefusedByWhatTheyAreGiven();
        callsRefusedAtTimes();
        callsThatAsk();
    }

    public static void main(String[] args) {
        RefusedCallsTest test = new RefusedCallsTest();
        test.setEachCallEverywhere();
        Due.is("enough calls were refused", test.refusals > 20000, true);
        Due.finish();
    }

    private void setEachCallEverywhere() {
        for (int at = 0; at <= story.size(); at++) {
            List<Integer> without = laterAnswers(storyUntil(at), at);
            for (Probe probe : probes) {
                JobStates x = storyUntil(at);
                boolean refused = probe.call.test(x);
                if (probe.always) {
                    Due.is(probe.name + " before call " + at + " is refused", refused, true);
                }
                if (refused) {
                    refusals++;
                    boolean same = laterAnswers(x, at).equals(without);
                    Due.is(probe.name + " before call " + at + " changes nothing", same, true);
                }
            }
        }
    }

    private JobStates storyUntil(int at) {
        JobStates x = new JobStates();
        tell(x, 0, at);
        return x;
    }

    private List<Integer> laterAnswers(JobStates x, int at) {
        List<Integer> answers = tell(x, at, story.size());
        lookAtAll(x, answers);
        return answers;
    }

    private List<Integer> tell(JobStates x, int from, int to) {
        List<Integer> answers = new ArrayList<>();
        for (int i = from; i < to; i++) {
            answers.add(story.get(i).applyAsInt(x));
        }
        return answers;
    }

    private static void lookAtAll(JobStates x, List<Integer> answers) {
        for (int run = 0; run < TRIGGERS; run++) {
            answers.add(x.verdict(run));
            for (int job = 0; job < JOBS; job++) {
                answers.add(x.state(run, job));
                for (int what = 0; what <= 4; what++) {
                    answers.add(x.about(run, job, what));
                }
            }
        }
        for (int runner = 0; runner < RUNNERS; runner++) {
            answers.add(x.has(runner));
        }
    }

    private static int bit(boolean answer) {
        return answer ? 1 : 0;
    }

    private void buildInStory() {
        story.add(x -> x.job(1, 3, 1, false, false));
        story.add(x -> x.job(2, 0, 0, false, true));
        story.add(x -> x.job(0, 0, 2, true, false));
        story.add(x -> x.job(0, 9, 0, false, false));
        story.add(x -> x.job(0, 0, 0, true, true));
        story.add(x -> bit(x.needs(1, 0)));
        story.add(x -> bit(x.needs(2, 1)));
        story.add(x -> bit(x.needs(4, 3)));
        story.add(x -> x.runner(3));
        story.add(x -> x.runner(1));
        story.add(x -> bit(x.lost(4)));
    }

    private void runInStory() {
        story.add(x -> x.trigger(0, 0));
        story.add(x -> x.trigger(1, NONE));
        story.add(x -> x.take(0));
        story.add(x -> x.take(1));
        story.add(x -> x.approve(0, 1, 1));
        story.add(x -> x.tick(2));
        story.add(x -> bit(x.beat(1)));
        story.add(x -> x.tick(1));
        story.add(x -> x.take(0));
        story.add(x -> bit(x.end(0, true, 77)));
        story.add(x -> x.approve(0, 1, 2));
        story.add(x -> x.take(1));
        story.add(x -> x.take(0));
        story.add(x -> x.tick(5));
        story.add(x -> x.take(0));
        story.add(x -> bit(x.end(0, false, 5)));
        story.add(x -> x.trigger(2, 0));
        story.add(x -> x.take(0));
        story.add(x -> x.take(1));
        story.add(x -> bit(x.cancel(1)));
        story.add(x -> x.tick(4));
        story.add(x -> bit(x.end(1, true, 12)));
        story.add(x -> x.tick(3));
    }

    private void fillInStory() {
        for (int runner = 2; runner < RUNNERS; runner++) {
            story.add(x -> x.runner(3));
        }
        story.add(x -> x.trigger(3, 1));
        for (int round = 0; round < 4; round++) {
            for (int i = 0; i < RUNNERS; i++) {
                int runner = i;
                int artefact = 16 * round + i;
                boolean well = (round + i) % 3 != 0;
                story.add(x -> x.take(runner));
                story.add(x -> bit(x.end(runner, well, artefact)));
            }
            int person = 4 + round % 2;
            story.add(x -> x.approve(2, 1, person) + x.approve(3, 4, person));
            story.add(x -> x.again(2));
            story.add(x -> x.again(3));
        }
        for (int run = 4; run < TRIGGERS; run++) {
            int group = run % 2 == 0 ? NONE : 3;
            story.add(x -> x.trigger(7, group));
        }
        story.add(x -> x.take(5));
        story.add(x -> x.tick(8));
    }

    private void refuses(String name, Predicate<JobStates> call) {
        probes.add(new Probe(name, true, call));
    }

    private void mayRefuse(String name, Predicate<JobStates> call) {
        probes.add(new Probe(name, false, call));
    }

    private void asks(String name, ToIntFunction<JobStates> call) {
        probes.add(new Probe(name, true, x -> {
            call.applyAsInt(x);
            return true;
        }));
    }

    private void callsRefusedByWhatTheyAreGiven() {
        int[] outOfAll = {-2, -1000, 12, 32, 1000, Integer.MIN_VALUE, Integer.MAX_VALUE};
        for (int out : outOfAll) {
            refuses("job of retries " + out, x -> x.job(0, 0, out, false, false) == NONE);
            refuses("needs(" + out + ", 0)", x -> !x.needs(out, 0));
            refuses("needs(4, " + out + ")", x -> !x.needs(4, out));
            refuses("trigger(" + out + ", 0)", x -> x.trigger(out, 0) == NONE);
            refuses("trigger(0, " + out + ")", x -> x.trigger(0, out) == NONE);
            refuses("approve(" + out + ", 1, 6)", x -> x.approve(out, 1, 6) == -1);
            refuses("approve(0, " + out + ", 6)", x -> x.approve(0, out, 6) == -1);
            refuses("approve(0, 1, " + out + ")", x -> x.approve(0, 1, out) == -1);
            refuses("take(" + out + ")", x -> x.take(out) == NONE);
            refuses("beat(" + out + ")", x -> !x.beat(out));
            refuses("end(" + out + ", true, 1)", x -> !x.end(out, true, 1));
            refuses("cancel(" + out + ")", x -> !x.cancel(out));
            refuses("again(" + out + ")", x -> x.again(out) == NONE);
        }
        refuses("job of limit -1", x -> x.job(0, -1, 0, false, false) == NONE);
        refuses("lost(0)", x -> !x.lost(0));
        refuses("lost(101)", x -> !x.lost(101));
        refuses("tick(-1)", x -> x.tick(-1) == NONE);
        refuses("tick(1001)", x -> x.tick(1001) == NONE);
    }

    private void callsRefusedAtTimes() {
        mayRefuse("job", x -> x.job(1, 1, 1, true, true) == NONE);
        mayRefuse("needs(4, 0)", x -> !x.needs(4, 0));
        mayRefuse("needs(1, 0)", x -> !x.needs(1, 0));
        mayRefuse("runner", x -> x.runner(3) == NONE);
        mayRefuse("trigger(0, 0)", x -> x.trigger(0, 0) == NONE);
        for (int i = 0; i < RUNNERS; i++) {
            int runner = i;
            mayRefuse("take(" + runner + ")", x -> x.take(runner) == NONE);
            mayRefuse("beat(" + runner + ")", x -> !x.beat(runner));
            mayRefuse("end(" + runner + ", true, 99)", x -> !x.end(runner, true, 99));
            mayRefuse("end(" + runner + ", false, 99)", x -> !x.end(runner, false, 99));
        }
        for (int i = 0; i < TRIGGERS; i++) {
            int run = i;
            mayRefuse("cancel(" + run + ")", x -> !x.cancel(run));
            mayRefuse("again(" + run + ")", x -> x.again(run) <= 0);
            for (int j = 0; j < 4; j++) {
                int person = j;
                mayRefuse("approve(" + run + ", 1, " + person + ")", x -> x.approve(run, 1, person) <= 0);
            }
        }
    }

    private void callsThatAsk() {
        asks("tick(0)", x -> x.tick(0));
        for (int i = -1; i <= TRIGGERS; i++) {
            int number = i;
            asks("verdict(" + number + ")", x -> x.verdict(number));
            asks("state(" + number + ", 1)", x -> x.state(number, 1));
            asks("state(0, " + number + ")", x -> x.state(0, number));
            asks("about(0, 1, " + number + ")", x -> x.about(0, 1, number));
            asks("about(" + number + ", 3, 4)", x -> x.about(number, 3, 4));
            asks("has(" + number + ")", x -> x.has(number));
        }
    }
}
