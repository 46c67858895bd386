import java.util.ArrayList;
import java.util.LinkedHashMap;
import java.util.List;
import java.util.Map;
import java.util.TreeSet;
import java.util.function.Supplier;
import java.util.function.ToIntFunction;

/**
 * "A call that is refused (it answers less than 0, or false) changes nothing.": in each scene every call
 * is tried with right and wrong numbers, and where it is refused nothing may have changed. Calls that
 * only ask for something may change nothing whatever they answer.
 */
public final class RefusedTest {
    private static final int REFUSED = -1;
    private static final int[] PROCESSES = {Scenes.LOWEST, -1, 0, 1, 2, 3, Scenes.HIGHEST};
    private static final int[] NUMBERS = {Scenes.LOWEST, -1, 0, 1, 3, 4, 20, 21, 59, 60, 100, 101, Scenes.HIGHEST};

    private record Call(String kind, String text, boolean onlyAsks, ToIntFunction<ReplayGroup> ask) { }

    private final Due due = new Due("RefusedTest");
    private final List<Call> calls = new ArrayList<>();
    private final TreeSet<String> refusedKinds = new TreeSet<>();

    public static void main(String[] args) {
        new RefusedTest().play();
    }

    private void play() {
        listCode();
        listProcessCalls();
        listChannelCalls();
        listOutputCalls();
        for (Map.Entry<String, Supplier<ReplayGroup>> scene : scenes().entrySet()) {
            due.begin(scene.getKey());
            for (Call call : calls) {
                tryOut(scene.getValue(), call);
            }
        }
        due.begin("all scenes");
        due.is("kinds that were refused: " + refusedKinds, refusedKinds.size(), 15);
        due.end();
    }

    private static Map<String, Supplier<ReplayGroup>> scenes() {
        Map<String, Supplier<ReplayGroup>> scenes = new LinkedHashMap<>();
        scenes.put("new", ReplayGroup::new);
        scenes.put("written", Scenes::allWritten);
        scenes.put("full programs", Scenes::fullPrograms);
        scenes.put("at work", Scenes::atWork);
        scenes.put("one down", Scenes::oneDown);
        scenes.put("all down", Scenes::allDown);
        scenes.put("coming back", Scenes::comingBack);
        scenes.put("back at the beginning", Scenes::backAtTheBeginning);
        scenes.put("full logs", Scenes::fullLogs);
        scenes.put("full logs, empty channels", Scenes::fullLogsEmptyChannels);
        scenes.put("full log of one down", Scenes::fullLogOfOneDown);
        scenes.put("full channels", Scenes::fullChannels);
        scenes.put("full outputs", Scenes::fullOutputs);
        scenes.put("ended", Scenes::ended);
        scenes.put("waiting for messages", Scenes::waitingForMessages);
        return scenes;
    }

    private void tryOut(Supplier<ReplayGroup> scene, Call call) {
        int answer = call.ask.applyAsInt(scene.get());
        boolean negativeValue = call.kind.equals("register") || call.kind.equals("output");
        if (answer < 0 && !negativeValue) {
            refusedKinds.add(call.kind);
        }
        if (answer < 0 || call.onlyAsks) {
            Unchanged.by(due, call.text, scene, call.ask, answer);
        }
    }

    private void does(String kind, String numbers, ToIntFunction<ReplayGroup> ask) {
        calls.add(new Call(kind, kind + numbers, false, ask));
    }

    private void asks(String kind, String numbers, ToIntFunction<ReplayGroup> ask) {
        calls.add(new Call(kind, kind + numbers, true, ask));
    }

    private void listCode() {
        for (int p = -1; p <= 3; p++) {
            for (int op = -1; op <= 8; op++) {
                for (int a : new int[] {-1, 0, 1, 2, 4, 16}) {
                    listCode(p, op, a);
                }
            }
        }
    }

    private void listCode(int p, int op, int a) {
        for (int b : new int[] {-1, 0, 4}) {
            does("code", "(" + p + ", " + op + ", " + a + ", " + b + ")", x -> x.code(p, op, a, b) ? 1 : REFUSED);
        }
    }

    private void listProcessCalls() {
        for (int p : PROCESSES) {
            String one = "(" + p + ")";
            does("step", one, x -> x.step(p));
            does("checkpoint", one, x -> x.checkpoint(p));
            does("crash", one, x -> x.crash(p) ? 1 : REFUSED);
            does("recover", one, x -> x.recover(p));
            asks("kept", one, x -> x.kept(p));
            asks("held", one, x -> x.held(p));
            for (int n : NUMBERS) {
                String two = "(" + p + ", " + n + ")";
                does("input", two, x -> x.input(p, n));
                does("run", two, x -> x.run(p, n));
                asks("register", two, x -> x.register(p, n));
                asks("state", two, x -> x.state(p, n));
                asks("source", two, x -> x.source(p, n));
            }
        }
    }

    private void listChannelCalls() {
        for (int from : PROCESSES) {
            for (int to : PROCESSES) {
                String two = "(" + from + ", " + to + ")";
                does("deliver", two, x -> x.deliver(from, to));
                asks("sent", two, x -> x.sent(from, to));
                asks("waiting", two, x -> x.waiting(from, to));
            }
        }
    }

    private void listOutputCalls() {
        asks("outputs", "()", x -> x.outputs());
        for (int i : NUMBERS) {
            asks("author", "(" + i + ")", x -> x.author(i));
            asks("output", "(" + i + ")", x -> x.output(i));
        }
    }
}
