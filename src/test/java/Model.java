import java.util.ArrayList;
import java.util.Arrays;
import java.util.List;

/**
 * A second writing of the document, held in another way: nothing is ever thrown away, and states are
 * made anew by each instruction. It is slow and needs much room; only its answers count.
 */
final class Model {
    record Message(int value, int from) { }

    record Instruction(int op, int a, int b) { }

    record State(List<Integer> registers, int place, int age, int took, List<Integer> sent, int putOut) {
        static final State FIRST = new State(List.of(0, 0, 0, 0), 0, 0, 0, List.of(0, 0, 0), 0);

        State with(int register, int value) {
            return new State(changed(registers, register, value), place, age, took, sent, putOut);
        }

        State tookOne() {
            return new State(registers, place, age, took + 1, sent, putOut);
        }

        State sentOne(int to) {
            return new State(registers, place, age, took, changed(sent, to, sent.get(to) + 1), putOut);
        }

        State putOne() {
            return new State(registers, place, age, took, sent, putOut + 1);
        }

        State onward(int next) {
            return new State(registers, next, age + 1, took, sent, putOut);
        }

        private static List<Integer> changed(List<Integer> row, int i, int value) {
            ArrayList<Integer> copy = new ArrayList<>(row);
            copy.set(i, value);
            return List.copyOf(copy);
        }
    }

    /** The state of a process is null while it is down. */
    private final State[] states = {State.FIRST, State.FIRST, State.FIRST};
    private final State[] checkpoints = {State.FIRST, State.FIRST, State.FIRST};
    private final int[] didEver = new int[3];
    private final int[] heldBack = new int[3];
    private final int[][] delivered = new int[3][3];
    private final List<List<Instruction>> programs = Arrays.asList(new ArrayList<>(), new ArrayList<>(), new ArrayList<>());
    private final List<List<Message>> logs = Arrays.asList(new ArrayList<>(), new ArrayList<>(), new ArrayList<>());
    private final List<List<Integer>> sentEver = new ArrayList<>();
    private final List<Message> outputs = new ArrayList<>();

    Model() {
        for (int i = 0; i < 9; i++) {
            sentEver.add(new ArrayList<>());
        }
    }

    private static boolean in(int x, int low, int high) {
        return low <= x && x <= high;
    }

    private List<Integer> over(int from, int to) {
        return sentEver.get(3 * from + to);
    }

    boolean code(int p, int op, int a, int b) {
        if (!in(p, 0, 2) || didEver[p] > 0 || programs.get(p).size() == 16 || !in(op, 0, 7)) {
            return false;
        }
        boolean aIsRegister = op != 4 && op != 5;
        boolean bIsRegister = op == 1 || op == 2 || op == 3 || op == 5 || op == 6;
        if (aIsRegister && !in(a, 0, 3) || bIsRegister && !in(b, 0, 3)) {
            return false;
        }
        if (op == 4 && !in(a, 0, 15) || op == 5 && (!in(a, 0, 2) || a == p)) {
            return false;
        }
        return programs.get(p).add(new Instruction(op, a, b));
    }

    int input(int p, int value) {
        if (!in(p, 0, 2)) {
            return -1;
        }
        return states[p] == null ? -2 : kept(p) == 20 ? -4 : logged(p, new Message(value, 3));
    }

    private int logged(int p, Message message) {
        logs.get(p).add(message);
        return logs.get(p).size();
    }

    int deliver(int from, int to) {
        if (waiting(from, to) == -1) {
            return -1;
        }
        if (states[to] == null) {
            return -2;
        }
        if (waiting(from, to) == 0) {
            return -3;
        }
        if (kept(to) == 20) {
            return -4;
        }
        return logged(to, new Message(over(from, to).get(delivered[from][to]++), from));
    }

    int step(int p) {
        if (!in(p, 0, 2)) {
            return -1;
        }
        if (states[p] == null) {
            return -2;
        }
        if (states[p].place >= programs.get(p).size()) {
            return 2;
        }
        State after = after(p, states[p], programs.get(p).get(states[p].place));
        if (after == null) {
            return 0;
        }
        states[p] = after;
        didEver[p]++;
        return 1;
    }

    /** The state after an instruction; null when the process waits. */
    private State after(int p, State s, Instruction i) {
        int next = s.place + 1;
        switch (i.op) {
            case 0: return s.with(i.a, i.b).onward(next);
            case 1: return s.with(i.a, s.registers.get(i.a) + s.registers.get(i.b)).onward(next);
            case 2: return s.with(i.a, s.registers.get(i.a) * s.registers.get(i.b)).onward(next);
            case 3: return s.onward(s.registers.get(i.a) < s.registers.get(i.b) ? next + 1 : next);
            case 4: return s.onward(i.a);
            case 5: return send(p, i.a, s.registers.get(i.b)) ? s.sentOne(i.a).onward(next) : null;
            case 6: return receive(p, s, i, next);
            default: return put(p, s.registers.get(i.a)) ? s.putOne().onward(next) : null;
        }
    }

    private boolean send(int p, int to, int value) {
        if (over(p, to).size() >= states[p].sent.get(to) + 1) {
            heldBack[p]++;
            return true;
        }
        return waiting(p, to) < 8 && over(p, to).add(value);
    }

    private State receive(int p, State s, Instruction i, int next) {
        if (logs.get(p).size() == s.took) {
            return null;
        }
        Message message = logs.get(p).get(s.took);
        return s.with(i.b, message.from).with(i.a, message.value).tookOne().onward(next);
    }

    private boolean put(int p, int value) {
        long before = outputs.stream().filter(m -> m.from == p).count();
        if (before >= states[p].putOut + 1) {
            heldBack[p]++;
            return true;
        }
        return outputs.size() < 60 && outputs.add(new Message(value, p));
    }

    int run(int p, int n) {
        if (!in(p, 0, 2) || !in(n, 1, 100)) {
            return -1;
        }
        if (states[p] == null) {
            return -2;
        }
        int done = 0;
        while (done < n && step(p) == 1) {
            done++;
        }
        return done;
    }

    int checkpoint(int p) {
        if (!in(p, 0, 2)) {
            return -1;
        }
        if (states[p] == null) {
            return -2;
        }
        int before = kept(p);
        checkpoints[p] = states[p];
        return before - kept(p);
    }

    boolean crash(int p) {
        if (!in(p, 0, 2) || states[p] == null) {
            return false;
        }
        states[p] = null;
        return true;
    }

    int recover(int p) {
        if (!in(p, 0, 2)) {
            return -1;
        }
        if (states[p] != null) {
            return -3;
        }
        states[p] = checkpoints[p];
        return logs.get(p).size() - states[p].took;
    }

    int register(int p, int r) {
        return in(p, 0, 2) && in(r, 0, 3) && states[p] != null ? states[p].registers.get(r) : 0;
    }

    int state(int p, int what) {
        if (!in(p, 0, 2) || !in(what, 0, 3)) {
            return -1;
        }
        State s = states[p];
        return s == null ? -2 : new int[] {s.place, s.age, s.took, s.putOut}[what];
    }

    int sent(int p, int to) {
        if (waiting(p, to) == -1) {
            return -1;
        }
        return states[p] == null ? -2 : states[p].sent.get(to);
    }

    int kept(int p) {
        return in(p, 0, 2) ? logs.get(p).size() - checkpoints[p].took : -1;
    }

    int source(int p, int number) {
        if (!in(p, 0, 2)) {
            return -1;
        }
        return in(number, checkpoints[p].took + 1, logs.get(p).size()) ? logs.get(p).get(number - 1).from : -3;
    }

    int waiting(int from, int to) {
        return in(from, 0, 2) && in(to, 0, 2) && from != to ? over(from, to).size() - delivered[from][to] : -1;
    }

    int held(int p) {
        return in(p, 0, 2) ? heldBack[p] : -1;
    }

    int outputs() {
        return outputs.size();
    }

    int author(int i) {
        return in(i, 0, outputs.size() - 1) ? outputs.get(i).from : -1;
    }

    int output(int i) {
        return in(i, 0, outputs.size() - 1) ? outputs.get(i).value : 0;
    }
}
