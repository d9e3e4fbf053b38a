import java.util.Random;

/**
 * Long runs of calls, the same ones every time, held call by call against Model. The looks between them
 * go beyond the 512 calls that the document promises for: the class holds no count of its calls.
 */
public final class ModelTest {
    private static final int OBJECTS = 1500;
    private static final int CALLS = 512;

    private final Random random;
    private final JobStates x = new JobStates();
    private final Model model = new Model();
    private final StringBuilder told = new StringBuilder();

    private ModelTest(long seed) {
        random = new Random(seed);
        told.append("seed ").append(seed).append(':');
    }

    public static void main(String[] args) {
        for (int seed = 0; seed < OBJECTS && !Due.anyWrong(); seed++) {
            new ModelTest(seed).compare();
        }
        Due.finish();
    }

    private void compare() {
        int lead = random.nextInt(45);
        for (int i = 0; i < CALLS && !Due.anyWrong(); i++) {
            if (i < lead) {
                callBeforeRuns();
            } else {
                callAny();
            }
            if (i % 16 == 15) {
                lookAtAll();
            }
        }
        if (Due.anyWrong()) {
            System.out.println(told);
        }
    }

    private void callBeforeRuns() {
        switch (random.nextInt(8)) {
            case 0, 1, 2 -> job();
            case 3, 4, 5 -> needs();
            case 6 -> runner();
            default -> lost();
        }
    }

    private void callAny() {
        switch (random.nextInt(40)) {
            case 0 -> job();
            case 1 -> needs();
            case 2, 3 -> runner();
            case 4 -> lost();
            case 5, 6 -> trigger();
            case 7, 8, 9, 10, 11 -> approve();
            case 12 -> cancel();
            case 13, 14, 15 -> again();
            case 16, 17, 18, 19 -> tick();
            case 20, 21, 22, 23 -> beat();
            case 24, 25, 26, 27, 28, 29, 30, 31 -> take();
            default -> end();
        }
    }

    /** Mostly 0 to bound - 1, but one that is just or far out now and then. */
    private int near(int bound) {
        switch (random.nextInt(40)) {
            case 0:
                return -1;
            case 1:
                return bound;
            case 2:
                return random.nextInt();
            default:
                return random.nextInt(bound);
        }
    }

    private int labels() {
        return random.nextInt(3) == 0 ? random.nextInt() : random.nextInt(4) & random.nextInt(4);
    }

    private void due(String call, int got, int want) {
        told.append(' ').append(call).append(" = ").append(want).append(';');
        Due.is(call, got, want);
    }

    private void due(String call, boolean got, boolean want) {
        due(call, got ? 1 : 0, want ? 1 : 0);
    }

    private void job() {
        int beyond = random.nextInt(4) == 0 ? random.nextInt() << 8 : 0;
        int labels = labels() & random.nextInt(4) | beyond;
        int limit = random.nextInt(3) == 0 ? 0 : near(15);
        int retries = near(4);
        boolean always = random.nextInt(4) == 0;
        boolean approval = random.nextInt(4) == 0;
        due("job(" + labels + ", " + limit + ", " + retries + ", " + always + ", " + approval + ")",
                x.job(labels, limit, retries, always, approval),
                model.job(labels, limit, retries, always, approval));
    }

    private void needs() {
        int job = near(12);
        int earlier = near(12);
        due("needs(" + job + ", " + earlier + ")", x.needs(job, earlier), model.needs(job, earlier));
    }

    private void runner() {
        int labels = labels() | labels();
        due("runner(" + labels + ")", x.runner(labels), model.runner(labels));
    }

    private void lost() {
        int time = random.nextInt(3) == 0 ? near(101) : 1 + random.nextInt(15);
        due("lost(" + time + ")", x.lost(time), model.lost(time));
    }

    private void trigger() {
        int person = near(8);
        int group = random.nextInt(2) == 0 ? -1 : near(4);
        due("trigger(" + person + ", " + group + ")", x.trigger(person, group), model.trigger(person, group));
    }

    private void approve() {
        int run = near(10);
        int job = near(12);
        int person = near(8);
        due("approve(" + run + ", " + job + ", " + person + ")",
                x.approve(run, job, person), model.approve(run, job, person));
    }

    private void take() {
        int runner = near(6);
        due("take(" + runner + ")", x.take(runner), model.take(runner));
    }

    private void beat() {
        int runner = near(6);
        due("beat(" + runner + ")", x.beat(runner), model.beat(runner));
    }

    private void end() {
        int runner = near(6);
        boolean well = random.nextInt(3) != 0;
        int artefact = random.nextInt();
        due("end(" + runner + ", " + well + ", " + artefact + ")",
                x.end(runner, well, artefact), model.end(runner, well, artefact));
    }

    private void tick() {
        int n = random.nextInt(10) == 0 ? near(1001) : random.nextInt(6);
        due("tick(" + n + ")", x.tick(n), model.tick(n));
    }

    private void cancel() {
        int run = near(10);
        due("cancel(" + run + ")", x.cancel(run), model.cancel(run));
    }

    private void again() {
        int run = near(10);
        due("again(" + run + ")", x.again(run), model.again(run));
    }

    private void lookAtAll() {
        for (int run = -1; run <= 10; run++) {
            Due.is("verdict(" + run + ")", x.verdict(run), model.verdict(run));
            for (int job = -1; job <= 12; job++) {
                Due.is("state(" + run + ", " + job + ")", x.state(run, job), model.state(run, job));
                for (int what = -1; what <= 5; what++) {
                    Due.is("about(" + run + ", " + job + ", " + what + ")",
                            x.about(run, job, what), model.about(run, job, what));
                }
            }
        }
        for (int runner = -1; runner <= 6; runner++) {
            Due.is("has(" + runner + ")", x.has(runner), model.has(runner));
        }
    }
}
