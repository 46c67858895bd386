import java.util.List;
import java.util.function.Consumer;
import java.util.function.Supplier;
import java.util.function.ToIntFunction;

/**
 * Shows whether a call changes anything. Two groups are made by the same calls and one of them gets
 * this call besides; from then on both get the same calls, and all answers must be the same.
 */
final class Unchanged {
    /** Each way of looking has a pair of its own: none may use up what another looks at, nor 512 calls. */
    private static final List<Consumer<Unchanged>> WAYS = List.of(
        Unchanged::look, Unchanged::lookAtLogs, Unchanged::lookAtOutputs, Unchanged::goOn,
        Unchanged::comeBack, Unchanged::comeBackFromHere, Unchanged::writeOn);

    private final Due due;
    private final String call;
    private final ReplayGroup touched;
    private final ReplayGroup untouched;

    private Unchanged(Due due, String call, Supplier<ReplayGroup> scene) {
        this.due = due;
        this.call = call;
        touched = scene.get();
        untouched = scene.get();
    }

    /** The call has this answer, and changes nothing. */
    static void by(Due due, String call, Supplier<ReplayGroup> scene, ToIntFunction<ReplayGroup> ask, int want) {
        for (Consumer<Unchanged> way : WAYS) {
            Unchanged pair = new Unchanged(due, call, scene);
            due.is(call, ask.applyAsInt(pair.touched), want);
            way.accept(pair);
        }
    }

    private void same(String name, ToIntFunction<ReplayGroup> ask) {
        int got = ask.applyAsInt(touched);
        int want = ask.applyAsInt(untouched);
        due.is(got == want ? "" : call + " and then " + name, got, want);
    }

    private void look() {
        for (int p = 0; p < 3; p++) {
            int process = p;
            for (int i = 0; i < 4; i++) {
                int number = i;
                same("register", x -> x.register(process, number));
                same("state", x -> x.state(process, number));
            }
            for (int i = 0; i < 3; i++) {
                int other = i;
                same("sent", x -> x.sent(process, other));
                same("waiting", x -> x.waiting(process, other));
            }
            same("kept", x -> x.kept(process));
            same("held", x -> x.held(process));
        }
        same("outputs", ReplayGroup::outputs);
    }

    private void lookAtLogs() {
        for (int p = 0; p < 3; p++) {
            for (int i = 0; i <= 40; i++) {
                int process = p;
                int number = i;
                same("source", x -> x.source(process, number));
            }
        }
    }

    private void lookAtOutputs() {
        for (int i = -1; i <= 60; i++) {
            int number = i;
            same("author", x -> x.author(number));
            same("output", x -> x.output(number));
        }
    }

    /**
     * What stands in logs, channels and programs comes into registers and outputs. Running comes first,
     * since a call that is refused in both groups could spoil the same thing in both.
     */
    private void goOn() {
        runAll();
        runAll();
        look();
        checkpointAll();
        for (int round = 0; round < 3; round++) {
            for (int p = 0; p < 3; p++) {
                deliverFrom(p);
            }
            runAll();
        }
        look();
        for (int p = 0; p < 3; p++) {
            int process = p;
            same("input", x -> x.input(process, 77));
            same("step", x -> x.step(process));
        }
        runAll();
        look();
    }

    private void runAll() {
        for (int p = 0; p < 3; p++) {
            int process = p;
            same("run", x -> x.run(process, 100));
        }
    }

    private void checkpointAll() {
        for (int p = 0; p < 3; p++) {
            int process = p;
            same("checkpoint", x -> x.checkpoint(process));
        }
    }

    /** Three a round are more than a channel holds in three rounds. */
    private void deliverFrom(int from) {
        for (int i = 0; i < 3; i++) {
            same("deliver", x -> x.deliver(from, (from + 1) % 3));
            same("deliver", x -> x.deliver(from, (from + 2) % 3));
        }
    }

    /** What the checkpoints are comes to light. */
    private void comeBack() {
        for (int p = 0; p < 3; p++) {
            int process = p;
            same("crash", x -> x.crash(process) ? 1 : 0);
            same("recover", x -> x.recover(process));
        }
        look();
        goOn();
    }

    private void comeBackFromHere() {
        checkpointAll();
        comeBack();
    }

    private void writeOn() {
        for (int p = 0; p < 3; p++) {
            int process = p;
            for (int i = 0; i <= 16; i++) {
                int number = i;
                same("code", x -> x.code(process, Scenes.SET, number % 4, 1000 + number) ? 1 : 0);
            }
            same("recover", x -> x.recover(process));
        }
        goOn();
    }
}
