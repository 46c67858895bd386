import java.util.Random;

/** Runs of 512 calls, drawn with fixed seeds, on a ReplayGroup and on the model at once. */
public final class ModelTest {
    private static final int RUNS = 4000;
    private static final int CALLS = 512;
    private static final int[] ODD = {-1, 3, 4, 16, 20, 21, 59, 60, 100, 101, Integer.MIN_VALUE, Integer.MAX_VALUE};
    /** What the long middle of a run calls, by its place in ask(); the likelier, the oftener it stands. */
    private static final int[] CHANGES = {1, 1, 2, 2, 2, 3, 4, 4, 5, 6, 7};

    private final Due due;
    private final Random random;
    private final ReplayGroup group = new ReplayGroup();
    private final Model model = new Model();
    /** Some runs seldom make checkpoints or crash, so that logs, channels and outputs come to their limits. */
    private final int calm;

    private ModelTest(Due due, long seed) {
        this.due = due;
        random = new Random(seed);
        calm = random.nextInt(4);
    }

    public static void main(String[] args) {
        Due due = new Due("ModelTest");
        for (int seed = 1; seed <= RUNS && !due.hasWrong(); seed++) {
            due.begin("seed " + seed);
            new ModelTest(due, seed).play();
        }
        due.end();
    }

    private void play() {
        int coding = 10 + random.nextInt(50);
        for (int i = 0; i < CALLS && !due.hasWrong(); i++) {
            if (i < coding) {
                ask(random.nextInt(12) == 0 ? change() : 0);
            } else {
                ask(random.nextInt(60) == 0 ? 0 : random.nextInt(5) < 3 ? change() : 8 + random.nextInt(10));
            }
        }
    }

    private int change() {
        int call = CHANGES[random.nextInt(CHANGES.length)];
        boolean upsets = call == 5 || call == 6;
        return upsets && random.nextInt(4) < calm ? 4 : call;
    }

    /** Mostly one of 0 .. below - 1, now and then something else. */
    private int number(int below) {
        return random.nextInt(40) == 0 ? ODD[random.nextInt(ODD.length)] : random.nextInt(below);
    }

    private int value() {
        return random.nextInt(5) == 0 ? random.nextInt() : random.nextInt(9) - 4;
    }

    private void ask(int call) {
        int p = number(3);
        int q = number(3);
        switch (call) {
            case 0 -> askCode(p);
            case 1 -> {
                int v = value();
                due.is("input(" + p + ", " + v + ")", group.input(p, v), model.input(p, v));
            }
            case 2 -> due.is("deliver(" + p + ", " + q + ")", group.deliver(p, q), model.deliver(p, q));
            case 3 -> due.is("step(" + p + ")", group.step(p), model.step(p));
            case 4 -> {
                int n = number(random.nextBoolean() ? 8 : 101);
                due.is("run(" + p + ", " + n + ")", group.run(p, n), model.run(p, n));
            }
            case 5 -> due.is("checkpoint(" + p + ")", group.checkpoint(p), model.checkpoint(p));
            case 6 -> due.is("crash(" + p + ")", group.crash(p), model.crash(p));
            case 7 -> due.is("recover(" + p + ")", group.recover(p), model.recover(p));
            default -> look(call, p, q);
        }
    }

    private void askCode(int p) {
        int op = random.nextInt(3) == 0 ? number(8) : 4 + random.nextInt(4);
        int a = op == 4 ? number(random.nextInt(4) > 0 ? 2 : 16) : op == 5 ? number(3) : number(4);
        int b = op == 0 ? value() : number(4);
        due.is("code(" + p + ", " + op + ", " + a + ", " + b + ")", group.code(p, op, a, b), model.code(p, op, a, b));
    }

    private void look(int call, int p, int q) {
        int r = number(4);
        switch (call) {
            case 8 -> due.is("register(" + p + ", " + r + ")", group.register(p, r), model.register(p, r));
            case 9 -> due.is("state(" + p + ", " + r + ")", group.state(p, r), model.state(p, r));
            case 10 -> due.is("sent(" + p + ", " + q + ")", group.sent(p, q), model.sent(p, q));
            case 11 -> due.is("kept(" + p + ")", group.kept(p), model.kept(p));
            case 12 -> {
                int i = number(60);
                due.is("source(" + p + ", " + i + ")", group.source(p, i), model.source(p, i));
            }
            case 13 -> due.is("waiting(" + p + ", " + q + ")", group.waiting(p, q), model.waiting(p, q));
            case 14 -> due.is("held(" + p + ")", group.held(p), model.held(p));
            case 15 -> due.is("outputs()", group.outputs(), model.outputs());
            case 16 -> {
                int i = number(62);
                due.is("author(" + i + ")", group.author(i), model.author(i));
            }
            default -> {
                int i = number(62);
                due.is("output(" + i + ")", group.output(i), model.output(i));
            }
        }
    }
}
