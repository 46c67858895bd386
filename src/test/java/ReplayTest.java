import java.util.Random;

/**
 * "Seen from outside, nothing ever crashed": two groups get the same calls, but one of them crashes,
 * recovers and comes back to its age now and then. What both show must be the same all the time.
 */
public final class ReplayTest {
    private static final int RUNS = 1500;
    private static final int CALLS = 512;
    /** What comparing at the end takes, and what one coming back to an old age may take. */
    private static final int RESERVE = 60 + 70;

    private final Due due;
    private final Random random;
    private final ReplayGroup calm = new ReplayGroup();
    private final ReplayGroup shaken = new ReplayGroup();
    /** Calls of the shaken group; an object is good for 512. */
    private int calls;

    private ReplayTest(Due due, long seed) {
        this.due = due;
        random = new Random(seed);
    }

    public static void main(String[] args) {
        Due due = new Due("ReplayTest");
        for (int seed = 1; seed <= RUNS && !due.hasWrong(); seed++) {
            due.begin("seed " + seed);
            new ReplayTest(due, seed).play();
        }
        due.end();
    }

    private void play() {
        for (int p = 0; p < 3; p++) {
            writeProgram(p);
        }
        while (calls < CALLS - RESERVE && !due.hasWrong()) {
            act(random.nextInt(3));
        }
        due.is("room for the calls that compare", calls <= CALLS - 60, true);
        compareStates(random.nextInt(3));
        compareOutputs();
    }

    /** Loops that take, send and put out, so that there is much to take again. */
    private void writeProgram(int p) {
        write(p, 6, random.nextInt(4), random.nextInt(4));
        int middle = 2 + random.nextInt(6);
        for (int i = 0; i < middle; i++) {
            int op = random.nextInt(8);
            int a = op == 4 ? random.nextInt(middle + 2) : op == 5 ? (p + 1 + random.nextInt(2)) % 3 : random.nextInt(4);
            write(p, op, a, random.nextInt(4));
        }
        write(p, 5, (p + 1) % 3, random.nextInt(4));
        write(p, 4, 0, 0);
    }

    private void write(int p, int op, int a, int b) {
        calls++;
        due.is("code", shaken.code(p, op, a, b), calm.code(p, op, a, b));
    }

    private void act(int p) {
        int what = random.nextInt(10);
        if (what < 3) {
            calls++;
            due.is("input", shaken.input(p, what), calm.input(p, what));
        } else if (what < 5) {
            calls++;
            int to = (p + what - 2) % 3;
            due.is("deliver", shaken.deliver(p, to), calm.deliver(p, to));
        } else if (what < 8) {
            calls++;
            int n = 1 + random.nextInt(12);
            due.is("run", shaken.run(p, n), calm.run(p, n));
        } else if (what == 8) {
            calls++;
            due.is("checkpoint", shaken.checkpoint(p), calm.checkpoint(p));
        } else {
            shake(p);
        }
    }

    private void shake(int p) {
        calls += 3;
        int age = shaken.state(p, 1);
        due.is("crash", shaken.crash(p), true);
        due.is("recover", shaken.recover(p), calm.kept(p));
        calls++;
        int left = age - shaken.state(p, 1);
        while (left > 0) {
            calls++;
            int n = Math.min(left, 100);
            due.is("run again", shaken.run(p, n), n);
            left -= n;
        }
    }

    private void compareStates(int p) {
        for (int i = 0; i < 4; i++) {
            due.is("register", shaken.register(p, i), calm.register(p, i));
            due.is("state", shaken.state(p, i), calm.state(p, i));
        }
        for (int to = 0; to < 3; to++) {
            due.is("sent", shaken.sent(p, to), calm.sent(p, to));
            due.is("waiting", shaken.waiting(p, to), calm.waiting(p, to));
        }
        due.is("calm ones hold nothing back", calm.held(p), 0);
    }

    private void compareOutputs() {
        int count = calm.outputs();
        due.is("outputs", shaken.outputs(), count);
        int first = count > 20 ? random.nextInt(count - 20) : 0;
        for (int i = first; i < Math.min(count, first + 20); i++) {
            due.is("author", shaken.author(i), calm.author(i));
            due.is("output", shaken.output(i), calm.output(i));
        }
    }
}
