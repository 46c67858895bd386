import static java.lang.Integer.MAX_VALUE;
import static java.lang.Integer.MIN_VALUE;

import java.util.List;
import java.util.function.Supplier;
import java.util.function.ToIntFunction;

/** Each sentence of promises 1 to 19 that names a boundary case or a refusal has a test of its own here. */
public final class PromiseEdgeTest {
    private static final int BAD = Scenes.BAD, DOWN = Scenes.DOWN, NONE = Scenes.NONE, FULL = Scenes.FULL;
    private static final int WAITS = Scenes.WAITS, DID = Scenes.DID, END = Scenes.END;
    private static final int SET = Scenes.SET, ADD = Scenes.ADD, TIMES = Scenes.TIMES, LESS = Scenes.LESS;
    private static final int GOTO = Scenes.GOTO, SEND = Scenes.SEND, RECEIVE = Scenes.RECEIVE, PUT = Scenes.PUT;
    private static final int NO = 0, YES = 1;
    private static final int[] NO_PROCESS = Scenes.NO_PROCESS;
    private static final int[] NO_REGISTER = Scenes.NO_REGISTER;

    private static final Due due = new Due("PromiseEdgeTest");

    public static void main(String[] args) {
        newObjectIsEmpty();
        codeNoProcess();
        codeDidAlready();
        codeDidAlreadySinceTheBeginning();
        codeDidNothingYet();
        codeHasSixteen();
        codeNoOp();
        codeNoRegisterA();
        codeNoRegisterB();
        codeGotoPlace();
        codeSendToAnother();
        codeNumbersNotLookedAt();
        codeOfOneThatIsDown();
        inputNumber();
        inputBad();
        inputDown();
        inputFull();
        deliverTheFirst();
        deliverBad();
        deliverDown();
        deliverFromOneThatIsDown();
        deliverNone();
        deliverFull();
        stepAnswers();
        stepBad();
        stepDown();
        runUntilDone();
        runUntilWaitsOrEnd();
        runBadProcess();
        runBadNumber();
        runDown();
        checkpointBecomesState();
        checkpointOnTheWayBack();
        checkpointAnswers();
        checkpointBad();
        checkpointDown();
        crashLosesState();
        crashRefused();
        recoverState();
        recoverAnswers();
        recoverOnTheWayBack();
        recoverBad();
        recoverNone();
        registerZero();
        stateBad();
        stateDown();
        sentBad();
        sentDown();
        keptAtItsEdges();
        keptBad();
        sourceAtItsEdges();
        sourceBad();
        sourceNone();
        waitingAtItsEdges();
        waitingBad();
        heldAtItsEdges();
        heldBad();
        outputsAtItsEdges();
        authorAtItsEdges();
        outputAtItsEdges();
        due.end();
    }

    private static void refused(String call, Supplier<ReplayGroup> scene, ToIntFunction<ReplayGroup> ask, int want) {
        Unchanged.by(due, call, scene, ask, want);
    }

    /** Refused wherever the group stands. */
    private static void refusedEverywhere(String call, ToIntFunction<ReplayGroup> ask, int want) {
        List<Supplier<ReplayGroup>> scenes = List.of(ReplayGroup::new, Scenes::allWritten, Scenes::atWork, Scenes::allDown);
        for (Supplier<ReplayGroup> scene : scenes) {
            refused(call, scene, ask, want);
        }
    }

    /** A group in which instructions can be written after some others, so that a slip shows. */
    private static ReplayGroup halfWritten() {
        ReplayGroup x = Scenes.written(0, SET, 0, 5, PUT, 0, 0);
        Scenes.write(x, 1, SET, 1, 6, PUT, 1, 0);
        Scenes.write(x, 2, SET, 2, 7, PUT, 2, 0);
        return x;
    }

    private static void refusedCode(int process, int op, int a, int b) {
        String call = "code(" + process + ", " + op + ", " + a + ", " + b + ")";
        refused(call, PromiseEdgeTest::halfWritten, x -> x.code(process, op, a, b) ? YES : NO, NO);
    }

    private static void acceptedCode(int process, int op, int a, int b) {
        ReplayGroup x = halfWritten();
        due.is("code(" + process + ", " + op + ", " + a + ", " + b + ")", x.code(process, op, a, b), true);
        x.input(process, 1);
        due.is("run of the two before it", x.run(process, 2), 2);
        due.is("step of it", x.step(process), DID);
    }

    private static void newObjectIsEmpty() {
        due.begin("promise 1: \"All programs, channels, logs and outputs are empty.\"");
        ReplayGroup x = new ReplayGroup();
        for (int p = 0; p < 3; p++) {
            due.is("step", x.step(p), END);
            due.is("kept", x.kept(p), 0);
            due.is("source", x.source(p, 1), NONE);
            for (int to = 0; to < 3; to++) {
                due.is("waiting", x.waiting(p, to), p == to ? BAD : 0);
                due.is("deliver", x.deliver(p, to), p == to ? BAD : NONE);
            }
        }
        due.is("outputs", x.outputs(), 0);
        due.is("author", x.author(0), BAD);
        due.is("output", x.output(0), 0);
    }

    private static void codeNoProcess() {
        due.begin("promise 2: \"false when there is no such process\"");
        for (int p : NO_PROCESS) {
            refusedEverywhere("code(" + p + ", 0, 0, 0)", x -> x.code(p, SET, 0, 0) ? YES : NO, NO);
            refused("code(" + p + ", 5, 0, 0)", ReplayGroup::new, x -> x.code(p, SEND, 0, 0) ? YES : NO, NO);
        }
        for (int p = 0; p < 3; p++) {
            acceptedCode(p, SET, 0, 0);
        }
    }

    private static void codeDidAlready() {
        due.begin("promise 2: \"false when .. it did an instruction already\"");
        for (int p = 0; p < 3; p++) {
            int process = p;
            Supplier<ReplayGroup> scene = () -> {
                ReplayGroup x = halfWritten();
                x.step(process);
                return x;
            };
            refused("code after one step", scene, x -> x.code(process, SET, 0, 9) ? YES : NO, NO);
            refused("code at work", Scenes::atWork, x -> x.code(process, SET, 0, 9) ? YES : NO, NO);
            ReplayGroup x = scene.get();
            due.is("code of another", x.code((p + 1) % 3, SET, 0, 9), true);
            due.is("code of a third", x.code((p + 2) % 3, SET, 0, 9), true);
        }
    }

    private static void codeDidAlreadySinceTheBeginning() {
        due.begin("promise 2: \"it did an instruction already (since the beginning)\"");
        due.is("the age is 0 again", Scenes.backAtTheBeginning().state(1, 1), 0);
        refused("code at age 0", Scenes::backAtTheBeginning, x -> x.code(1, SET, 0, 9) ? YES : NO, NO);
        refused("code while down", Scenes::oneDown, x -> x.code(1, SET, 0, 9) ? YES : NO, NO);
        refused("code on the way back", Scenes::comingBack, x -> x.code(1, SET, 0, 9) ? YES : NO, NO);
    }

    private static void codeDidNothingYet() {
        due.begin("promise 2: one that did no instruction yet");
        ReplayGroup x = Scenes.written(0, RECEIVE, 0, 1);
        due.is("step that waits", x.step(0), WAITS);
        due.is("run that waits", x.run(0, 100), 0);
        due.is("checkpoint", x.checkpoint(0), 0);
        due.is("crash", x.crash(0), true);
        due.is("recover", x.recover(0), 0);
        due.is("code", x.code(0, PUT, 0, 0), true);
        due.is("step at the end", x.step(1), END);
        due.is("run at the end", x.run(1, 100), 0);
        due.is("code", x.code(1, PUT, 0, 0), true);
        due.is("input", x.input(0, 8), 1);
        due.is("run", x.run(0, 100), 2);
        due.is("output", x.output(0), 8);
        due.is("run", x.run(1, 100), 1);
    }

    private static void codeHasSixteen() {
        due.begin("promise 2: \"false when .. it has 16\"");
        for (int p = 0; p < 3; p++) {
            int process = p;
            for (int op = 0; op < 8; op++) {
                int number = op;
                int a = op == SEND ? (p + 1) % 3 : 0;
                refused("a 17th instruction", Scenes::fullPrograms, x -> x.code(process, number, a, 0) ? YES : NO, NO);
            }
            ReplayGroup x = new ReplayGroup();
            for (int i = 0; i < 15; i++) {
                x.code(p, SET, 0, i);
            }
            due.is("code that is refused", x.code(p, SET, 4, 0), false);
            due.is("the 16th", x.code(p, SET, 1, 77), true);
            due.is("the 17th", x.code(p, SET, 1, 78), false);
            due.is("run", x.run(p, 100), 16);
            due.is("register", x.register(p, 1), 77);
        }
    }

    private static void codeNoOp() {
        due.begin("promise 2: \"false when .. op is not 0 .. 7\"");
        for (int op : new int[] {-1, 8, 9, 16, MIN_VALUE, MAX_VALUE}) {
            refusedCode(0, op, 0, 0);
            refusedCode(1, op, 0, 0);
        }
        for (int op = 0; op < 8; op++) {
            acceptedCode(1, op, 0, 0);
        }
    }

    private static void codeNoRegisterA() {
        due.begin("promise 2: \"false when .. a (for all but GOTO and SEND) .. is no register\"");
        for (int op : new int[] {SET, ADD, TIMES, LESS, RECEIVE, PUT}) {
            for (int a : NO_REGISTER) {
                refusedCode(0, op, a, 0);
                refusedCode(2, op, a, 3);
            }
            for (int a = 0; a < 4; a++) {
                acceptedCode(0, op, a, 0);
            }
        }
    }

    private static void codeNoRegisterB() {
        due.begin("promise 2: \"false when .. b (for ADD, TIMES, LESS, SEND, RECEIVE) is no register\"");
        for (int op : new int[] {ADD, TIMES, LESS, SEND, RECEIVE}) {
            for (int b : NO_REGISTER) {
                refusedCode(0, op, 1, b);
                refusedCode(1, op, 2, b);
            }
            for (int b = 0; b < 4; b++) {
                acceptedCode(0, op, 1, b);
            }
        }
    }

    private static void codeGotoPlace() {
        due.begin("promise 2: \"false when .. a of GOTO is not 0 .. 15\"");
        for (int a : new int[] {-1, 16, 17, MIN_VALUE, MAX_VALUE}) {
            refusedCode(0, GOTO, a, 0);
        }
        for (int a = 0; a <= 15; a++) {
            acceptedCode(0, GOTO, a, 0);
        }
    }

    private static void codeSendToAnother() {
        due.begin("promise 2: \"false when .. a of SEND is not another process\"");
        for (int p = 0; p < 3; p++) {
            refusedCode(p, SEND, p, 0);
            for (int a : NO_PROCESS) {
                refusedCode(p, SEND, a, 0);
            }
            acceptedCode(p, SEND, (p + 1) % 3, 0);
            acceptedCode(p, SEND, (p + 2) % 3, 3);
        }
    }

    private static void codeNumbersNotLookedAt() {
        due.begin("promise 2: \"Numbers that an instruction has not are not looked at.\"");
        for (int b : new int[] {MIN_VALUE, -1, 0, 3, 4, 15, 16, MAX_VALUE}) {
            ReplayGroup x = new ReplayGroup();
            due.is("SET with b = " + b + ", which is a value", x.code(0, SET, 0, b), true);
            due.is("PUT with b = " + b, x.code(0, PUT, 0, b), true);
            due.is("GOTO with b = " + b, x.code(0, GOTO, 1, b), true);
            due.is("run", x.run(0, 4), 4);
            due.is("outputs", x.outputs(), 2);
            due.is("output", x.output(1), b);
        }
    }

    private static void codeOfOneThatIsDown() {
        due.begin("promise 2: being down is not named as a reason to refuse");
        ReplayGroup x = new ReplayGroup();
        due.is("crash", x.crash(2), true);
        due.is("code", x.code(2, SET, 0, 8), true);
        due.is("step", x.step(2), DOWN);
        due.is("recover", x.recover(2), 0);
        due.is("step", x.step(2), DID);
        due.is("register", x.register(2, 0), 8);
    }

    private static void inputNumber() {
        due.begin("promise 3: \"A message from outside comes into a process's log: its number.\"");
        for (int p = 0; p < 3; p++) {
            ReplayGroup x = Scenes.written(p, RECEIVE, 0, 1, PUT, 0, 0, PUT, 1, 0, GOTO, 0, 0);
            int[] values = {0, MIN_VALUE, MAX_VALUE, -1};
            for (int i = 0; i < values.length; i++) {
                due.is("input", x.input(p, values[i]), i + 1);
            }
            due.is("run", x.run(p, 100), 16);
            for (int i = 0; i < values.length; i++) {
                due.is("value", x.output(2 * i), values[i]);
                due.is("where it came from", x.output(2 * i + 1), 3);
            }
        }
    }

    private static void inputBad() {
        due.begin("promise 3: \"BAD when there is no such process\"");
        for (int p : NO_PROCESS) {
            refusedEverywhere("input(" + p + ", 1)", x -> x.input(p, 1), BAD);
        }
    }

    private static void inputDown() {
        due.begin("promise 3: \"DOWN when it is down\"");
        for (int p = 0; p < 3; p++) {
            int process = p;
            refused("input(" + p + ", 1)", Scenes::allDown, x -> x.input(process, 1), DOWN);
        }
        refused("input(1, 1), full too", Scenes::fullLogOfOneDown, x -> x.input(1, 1), DOWN);
        due.is("input of one that is up", Scenes.oneDown().input(0, 1) > 0, true);
    }

    private static void inputFull() {
        due.begin("promise 3: \"FULL when the log keeps 20\"");
        for (int p = 0; p < 3; p++) {
            int process = p;
            refused("input(" + p + ", 1)", Scenes::fullLogs, x -> x.input(process, 1), FULL);
        }
        ReplayGroup x = Scenes.fullLogs();
        due.is("some were taken", x.state(0, 2) > 0, true);
        due.is("checkpoint", x.checkpoint(0) > 0, true);
        due.is("input with room", x.input(0, 1) > 20, true);
    }

    private static void deliverTheFirst() {
        due.begin("promise 4: \"The first message of a channel leaves it and comes into the log: its number there.\"");
        for (int from = 0; from < 3; from++) {
            int to = (from + 2) % 3;
            ReplayGroup x = Scenes.written(from, SET, 0, 70, SEND, to, 0, SET, 0, 80, SEND, to, 0);
            Scenes.write(x, to, RECEIVE, 0, 1, RECEIVE, 2, 3);
            due.is("run", x.run(from, 100), 4);
            due.is("input", x.input((from + 1) % 3, 1), 1);
            due.is("deliver", x.deliver(from, to), 1);
            due.is("waiting", x.waiting(from, to), 1);
            due.is("deliver", x.deliver(from, to), 2);
            due.is("waiting", x.waiting(from, to), 0);
            due.is("run", x.run(to, 100), 2);
            due.is("the first", x.register(to, 0), 70);
            due.is("where it came from", x.register(to, 1), from);
            due.is("the second", x.register(to, 2), 80);
            due.is("where it came from", x.register(to, 3), from);
        }
    }

    private static void deliverBad() {
        due.begin("promise 4: \"BAD when there is no such channel\"");
        for (int p = 0; p < 3; p++) {
            int process = p;
            refusedEverywhere("deliver(" + p + ", " + p + ")", x -> x.deliver(process, process), BAD);
            for (int wrong : NO_PROCESS) {
                refused("deliver(" + wrong + ", " + p + ")", Scenes::atWork, x -> x.deliver(wrong, process), BAD);
                refused("deliver(" + p + ", " + wrong + ")", Scenes::atWork, x -> x.deliver(process, wrong), BAD);
                refused("deliver, down too", Scenes::allDown, x -> x.deliver(wrong, process), BAD);
            }
        }
        refusedEverywhere("deliver(3, 3)", x -> x.deliver(3, 3), BAD);
        refusedEverywhere("deliver(-1, -1)", x -> x.deliver(-1, -1), BAD);
    }

    private static void deliverDown() {
        due.begin("promise 4: \"DOWN when that process is down\"");
        refused("deliver(0, 1)", Scenes::oneDown, x -> x.deliver(0, 1), DOWN);
        refused("deliver(2, 1)", Scenes::oneDown, x -> x.deliver(2, 1), DOWN);
        refused("deliver(0, 1), full too", Scenes::fullLogOfOneDown, x -> x.deliver(0, 1), DOWN);
        Supplier<ReplayGroup> empty = () -> {
            ReplayGroup x = new ReplayGroup();
            x.crash(1);
            return x;
        };
        refused("deliver(0, 1), empty too", empty, x -> x.deliver(0, 1), DOWN);
    }

    private static void deliverFromOneThatIsDown() {
        due.begin("promise 4: a message of one that is down");
        ReplayGroup x = Scenes.oneDown();
        int before = x.waiting(1, 0);
        due.is("deliver(1, 0)", x.deliver(1, 0) > 0, true);
        due.is("waiting(1, 0)", x.waiting(1, 0), before - 1);
    }

    private static void deliverNone() {
        due.begin("promise 4: \"NONE when the channel is empty\"");
        for (int from = 0; from < 3; from++) {
            for (int to = 0; to < 3; to++) {
                int f = from;
                int t = to;
                if (from != to) {
                    refused("deliver(" + f + ", " + t + ")", Scenes::allWritten, x -> x.deliver(f, t), NONE);
                    refused("deliver(" + f + ", " + t + "), full too", Scenes::fullLogsEmptyChannels, x -> x.deliver(f, t), NONE);
                }
            }
        }
        Supplier<ReplayGroup> emptied = () -> {
            ReplayGroup x = Scenes.fullChannels();
            for (int i = 0; i < 8; i++) {
                x.deliver(0, 1);
            }
            return x;
        };
        refused("deliver(0, 1)", emptied, x -> x.deliver(0, 1), NONE);
        due.is("deliver of another", emptied.get().deliver(1, 0), 1);
    }

    private static void deliverFull() {
        due.begin("promise 4: \"FULL when the log keeps 20\"");
        for (int p = 0; p < 3; p++) {
            int from = p;
            refused("deliver(" + p + ", " + (p + 1) % 3 + ")", Scenes::fullLogs, x -> x.deliver(from, (from + 1) % 3), FULL);
            refused("deliver(" + p + ", " + (p + 2) % 3 + ")", Scenes::fullLogs, x -> x.deliver(from, (from + 2) % 3), FULL);
        }
        ReplayGroup x = Scenes.fullLogs();
        due.is("checkpoint", x.checkpoint(1) > 0, true);
        due.is("deliver with room", x.deliver(0, 1) > 20, true);
    }

    private static void stepAnswers() {
        due.begin("promise 5: \"DID, WAITS, or END\"");
        ReplayGroup x = Scenes.written(1, SET, 0, 1, RECEIVE, 0, 1);
        due.is("step", x.step(1), DID);
        due.is("step", x.step(1), WAITS);
        due.is("one instruction", x.state(1, 1), 1);
        due.is("input", x.input(1, 5), 1);
        due.is("step", x.step(1), DID);
        due.is("step", x.step(1), END);
        due.is("two instructions", x.state(1, 1), 2);
    }

    private static void stepBad() {
        due.begin("promise 5: \"BAD when there is no such process\"");
        for (int p : NO_PROCESS) {
            refusedEverywhere("step(" + p + ")", x -> x.step(p), BAD);
        }
    }

    private static void stepDown() {
        due.begin("promise 5: \"DOWN when it is down\"");
        for (int p = 0; p < 3; p++) {
            int process = p;
            refused("step(" + p + ")", Scenes::allDown, x -> x.step(process), DOWN);
        }
        due.is("step of another", Scenes.oneDown().step(0), DID);
    }

    private static void runUntilDone() {
        due.begin("promise 6: \"until n instructions were done (n is 1 .. 100)\"");
        for (int n = 1; n <= 100; n++) {
            ReplayGroup x = Scenes.written(0, GOTO, 0, 0);
            due.is("run(0, " + n + ")", x.run(0, n), n);
            due.is("the age", x.state(0, 1), n);
        }
    }

    private static void runUntilWaitsOrEnd() {
        due.begin("promise 6: \"or one answers WAITS or END. Answers how many were done\"");
        ReplayGroup x = Scenes.written(0, SET, 0, 1, SET, 1, 2, RECEIVE, 2, 3, SET, 3, 4);
        due.is("up to where it waits", x.run(0, 2), 2);
        due.is("from there", x.run(0, 1), 0);
        due.is("input", x.input(0, 5), 1);
        due.is("up to the end", x.run(0, 2), 2);
        due.is("from there", x.run(0, 2), 0);
        ReplayGroup y = Scenes.written(0, SET, 0, 1, SET, 1, 2, RECEIVE, 2, 3, SET, 3, 4);
        due.is("3, but it waits before", y.run(0, 3), 2);
        due.is("input", y.input(0, 5), 1);
        due.is("3, but it ends before", y.run(0, 3), 2);
        due.is("the age", y.state(0, 1), 4);
    }

    private static void runBadProcess() {
        due.begin("promise 6: \"BAD when there is no such process\"");
        for (int p : NO_PROCESS) {
            refusedEverywhere("run(" + p + ", 1)", x -> x.run(p, 1), BAD);
            refused("run(" + p + ", 0)", Scenes::atWork, x -> x.run(p, 0), BAD);
        }
    }

    private static void runBadNumber() {
        due.begin("promise 6: \"BAD when .. n is not as said\"");
        for (int n : new int[] {0, -1, 101, 102, MIN_VALUE, MAX_VALUE}) {
            refusedEverywhere("run(0, " + n + ")", x -> x.run(0, n), BAD);
            refused("run(2, " + n + ") at an end", Scenes::ended, x -> x.run(2, n), BAD);
        }
    }

    private static void runDown() {
        due.begin("promise 6: \"DOWN when it is down\"");
        for (int p = 0; p < 3; p++) {
            int process = p;
            refused("run(" + p + ", 1)", Scenes::allDown, x -> x.run(process, 1), DOWN);
            refused("run(" + p + ", 100)", Scenes::allDown, x -> x.run(process, 100), DOWN);
        }
    }

    private static void checkpointBecomesState() {
        due.begin("promise 7: \"The checkpoint of a process becomes its state.\"");
        for (int p = 0; p < 3; p++) {
            ReplayGroup x = Scenes.atWork();
            ReplayGroup y = Scenes.atWork();
            due.is("checkpoint", x.checkpoint(p) > 0, true);
            isSameState(x, y, p);
            due.is("crash", x.crash(p), true);
            due.is("recover", x.recover(p), x.kept(p));
            isSameState(x, y, p);
        }
    }

    /** Takes three messages in turn, sends each to process 1 and puts it out, crashes, and is up again. */
    private static ReplayGroup backAfterThree() {
        ReplayGroup x = Scenes.written(0, RECEIVE, 0, 1, SEND, 1, 0, PUT, 0, 0, GOTO, 0, 0);
        for (int i = 1; i <= 3; i++) {
            x.input(0, 10 * i);
        }
        due.is("run", x.run(0, 100), 12);
        due.is("crash", x.crash(0), true);
        due.is("recover", x.recover(0), 3);
        return x;
    }

    private static void isAfterThree(ReplayGroup x, int held) {
        due.is("held", x.held(0), held);
        due.is("waiting", x.waiting(0, 1), 3);
        due.is("outputs", x.outputs(), 3);
        due.is("output(2)", x.output(2), 30);
        due.is("sent", x.sent(0, 1), 3);
        due.is("put out", x.state(0, 3), 3);
        due.is("a message more", x.input(0, 40), 4);
        due.is("run", x.run(0, 100), 4);
        due.is("held", x.held(0), held);
        due.is("waiting", x.waiting(0, 1), 4);
        due.is("output(3)", x.output(3), 40);
    }

    private static void checkpointOnTheWayBack() {
        due.begin("promise 7: a checkpoint before all was taken again");
        ReplayGroup x = backAfterThree();
        due.is("run", x.run(0, 5), 5);
        due.is("checkpoint", x.checkpoint(0), 2);
        due.is("kept", x.kept(0), 1);
        due.is("run", x.run(0, 100), 7);
        isAfterThree(x, 6);
    }

    private static void recoverOnTheWayBack() {
        due.begin("promise 9: a crash before all was taken again");
        ReplayGroup x = backAfterThree();
        due.is("run", x.run(0, 6), 6);
        due.is("held", x.held(0), 3);
        due.is("crash", x.crash(0), true);
        due.is("recover", x.recover(0), 3);
        due.is("run", x.run(0, 100), 12);
        isAfterThree(x, 3 + 6);
    }

    private static void isSameState(ReplayGroup x, ReplayGroup y, int p) {
        for (int i = 0; i < 4; i++) {
            due.is("register(" + p + ", " + i + ")", x.register(p, i), y.register(p, i));
            due.is("state(" + p + ", " + i + ")", x.state(p, i), y.state(p, i));
        }
        due.is("sent", x.sent(p, (p + 1) % 3), y.sent(p, (p + 1) % 3));
        due.is("sent", x.sent(p, (p + 2) % 3), y.sent(p, (p + 2) % 3));
    }

    private static void checkpointAnswers() {
        due.begin("promise 7: \"Answers how many messages its log does not keep any more for that\"");
        ReplayGroup x = Scenes.written(0, RECEIVE, 0, 1, GOTO, 0, 0);
        due.is("an empty log", x.checkpoint(0), 0);
        for (int i = 0; i < 20; i++) {
            x.input(0, i);
        }
        due.is("none taken", x.checkpoint(0), 0);
        due.is("run", x.run(0, 1), 1);
        due.is("one taken", x.checkpoint(0), 1);
        due.is("none taken since", x.checkpoint(0), 0);
        due.is("run", x.run(0, 100), 39);
        due.is("all the others taken", x.checkpoint(0), 19);
        due.is("kept", x.kept(0), 0);
        for (int i = 0; i < 20; i++) {
            x.input(0, i);
        }
        due.is("run", x.run(0, 100), 40);
        due.is("a whole log", x.checkpoint(0), 20);
    }

    private static void checkpointBad() {
        due.begin("promise 7: \"BAD when there is no such process\"");
        for (int p : NO_PROCESS) {
            refusedEverywhere("checkpoint(" + p + ")", x -> x.checkpoint(p), BAD);
        }
    }

    private static void checkpointDown() {
        due.begin("promise 7: \"DOWN when it is down\"");
        for (int p = 0; p < 3; p++) {
            int process = p;
            refused("checkpoint(" + p + ")", Scenes::allDown, x -> x.checkpoint(process), DOWN);
        }
    }

    private static void crashLosesState() {
        due.begin("promise 8: \"A process goes down; its state is lost: true\"");
        ReplayGroup x = Scenes.atWork();
        int kept = x.kept(1);
        int outputs = x.outputs();
        due.is("crash", x.crash(1), true);
        for (int i = 0; i < 4; i++) {
            due.is("register", x.register(1, i), 0);
            due.is("state", x.state(1, i), DOWN);
        }
        due.is("the log outlives it", x.kept(1), kept);
        due.is("outputs outlive it", x.outputs(), outputs);
        due.is("others are up", x.recover(0), NONE);
        due.is("others are up", x.recover(2), NONE);
    }

    private static void crashRefused() {
        due.begin("promise 8: \"false when there is no such process or it is down\"");
        for (int p : NO_PROCESS) {
            refusedEverywhere("crash(" + p + ")", x -> x.crash(p) ? YES : NO, NO);
        }
        for (int p = 0; p < 3; p++) {
            int process = p;
            refused("crash(" + p + "), down", Scenes::allDown, x -> x.crash(process) ? YES : NO, NO);
        }
    }

    private static void recoverState() {
        due.begin("promise 9: \"A process that is down is up again, its state is that of its checkpoint.\"");
        ReplayGroup x = Scenes.atWork();
        ReplayGroup y = Scenes.atWork();
        for (int p = 0; p < 3; p++) {
            x.checkpoint(p);
            due.is("it goes on from there", x.run(p, 1), 1);
            due.is("crash", x.crash(p), true);
            due.is("recover", x.recover(p) >= 0, true);
            isSameState(x, y, p);
            due.is("once more from there", x.run(p, 1), 1);
            due.is("crash", x.crash(p), true);
            due.is("recover", x.recover(p) >= 0, true);
            isSameState(x, y, p);
        }
    }

    private static void recoverAnswers() {
        due.begin("promise 9: \"Answers how many messages it has to take from its log to have taken all\"");
        ReplayGroup x = Scenes.written(2, RECEIVE, 0, 1, GOTO, 0, 0);
        recoversWith(x, 0);
        for (int i = 0; i < 20; i++) {
            x.input(2, i);
        }
        recoversWith(x, 20);
        due.is("run", x.run(2, 6), 6);
        recoversWith(x, 20);
        due.is("run", x.run(2, 6), 6);
        due.is("checkpoint", x.checkpoint(2), 3);
        recoversWith(x, 17);
        due.is("run", x.run(2, 100), 34);
        due.is("checkpoint", x.checkpoint(2), 17);
        recoversWith(x, 0);
        due.is("step", x.step(2), WAITS);
    }

    private static void recoversWith(ReplayGroup x, int want) {
        due.is("crash", x.crash(2), true);
        due.is("recover", x.recover(2), want);
        due.is("kept", x.kept(2), want);
    }

    private static void recoverBad() {
        due.begin("promise 9: \"BAD when there is no such process\"");
        for (int p : NO_PROCESS) {
            refusedEverywhere("recover(" + p + ")", x -> x.recover(p), BAD);
        }
    }

    private static void recoverNone() {
        due.begin("promise 9: \"NONE when it is up\"");
        for (int p = 0; p < 3; p++) {
            int process = p;
            refused("recover(" + p + ")", ReplayGroup::new, x -> x.recover(process), NONE);
            refused("recover(" + p + ")", Scenes::atWork, x -> x.recover(process), NONE);
            refused("recover(" + p + "), again", Scenes::comingBack, x -> x.recover(process), NONE);
        }
    }

    private static void registerZero() {
        due.begin("promise 10: \"0 when there is no such process or register, or the process is down\"");
        Supplier<ReplayGroup> scene = () -> {
            ReplayGroup x = new ReplayGroup();
            for (int p = 0; p < 3; p++) {
                Scenes.write(x, p, SET, 0, 5, SET, 1, 6, SET, 2, 7, SET, 3, 8);
                x.run(p, 4);
            }
            return x;
        };
        for (int wrong : NO_PROCESS) {
            refused("register(" + wrong + ", 0)", scene, x -> x.register(wrong, 0), 0);
            refused("register(" + wrong + ", 3)", scene, x -> x.register(wrong, 3), 0);
        }
        for (int wrong : NO_REGISTER) {
            refused("register(0, " + wrong + ")", scene, x -> x.register(0, wrong), 0);
            refused("register(2, " + wrong + ")", scene, x -> x.register(2, wrong), 0);
        }
        ReplayGroup x = scene.get();
        due.is("checkpoint", x.checkpoint(1), 0);
        due.is("crash", x.crash(1), true);
        for (int r = 0; r < 4; r++) {
            due.is("register(1, " + r + "), down", x.register(1, r), 0);
            due.is("register(2, " + r + ")", x.register(2, r), 5 + r);
        }
    }

    private static void stateBad() {
        due.begin("promise 11: \"BAD when there is no such process or what\"");
        for (int wrong : NO_PROCESS) {
            refusedEverywhere("state(" + wrong + ", 1)", x -> x.state(wrong, 1), BAD);
        }
        for (int wrong : new int[] {-1, 4, 5, MIN_VALUE, MAX_VALUE}) {
            refusedEverywhere("state(1, " + wrong + ")", x -> x.state(1, wrong), BAD);
        }
    }

    private static void stateDown() {
        due.begin("promise 11: \"DOWN when it is down\"");
        for (int p = 0; p < 3; p++) {
            for (int w = 0; w < 4; w++) {
                int process = p;
                int what = w;
                refused("state(" + p + ", " + w + ")", Scenes::allDown, x -> x.state(process, what), DOWN);
            }
        }
    }

    private static void sentBad() {
        due.begin("promise 12: \"BAD when there is no such channel\"");
        for (int p = 0; p < 3; p++) {
            int process = p;
            refusedEverywhere("sent(" + p + ", " + p + ")", x -> x.sent(process, process), BAD);
            for (int wrong : NO_PROCESS) {
                refused("sent(" + p + ", " + wrong + ")", Scenes::atWork, x -> x.sent(process, wrong), BAD);
                refused("sent(" + wrong + ", " + p + ")", Scenes::atWork, x -> x.sent(wrong, process), BAD);
                refused("sent(" + p + ", " + wrong + "), down too", Scenes::allDown, x -> x.sent(process, wrong), BAD);
            }
        }
    }

    private static void sentDown() {
        due.begin("promise 12: \"DOWN when it is down\"");
        refused("sent(1, 0)", Scenes::oneDown, x -> x.sent(1, 0), DOWN);
        refused("sent(1, 2)", Scenes::oneDown, x -> x.sent(1, 2), DOWN);
        due.is("sent(0, 1), the other is down", Scenes.oneDown().sent(0, 1), Scenes.atWork().sent(0, 1));
        due.is("sent(2, 1), the other is down", Scenes.oneDown().sent(2, 1), Scenes.atWork().sent(2, 1));
    }

    private static void keptAtItsEdges() {
        due.begin("promise 13: \"How many messages a process's log keeps\"");
        ReplayGroup x = new ReplayGroup();
        for (int i = 1; i <= 20; i++) {
            due.is("kept", x.kept(1), i - 1);
            x.input(1, i);
        }
        due.is("kept", x.kept(1), 20);
        due.is("input", x.input(1, 21), FULL);
        due.is("kept", x.kept(1), 20);
        due.is("crash", x.crash(1), true);
        due.is("kept, down", x.kept(1), 20);
        due.is("kept of others", x.kept(0) + x.kept(2), 0);
    }

    private static void keptBad() {
        due.begin("promise 13: \"BAD when there is no such process\"");
        for (int p : NO_PROCESS) {
            refusedEverywhere("kept(" + p + ")", x -> x.kept(p), BAD);
        }
    }

    private static void sourceAtItsEdges() {
        due.begin("promise 14: \"Where the message of a log with a number came from, 0 .. 3\"");
        ReplayGroup x = Scenes.fullChannels();
        due.is("input", x.input(1, 5), 1);
        due.is("deliver", x.deliver(0, 1), 2);
        due.is("deliver", x.deliver(2, 1), 3);
        due.is("deliver", x.deliver(1, 0), 1);
        due.is("the outside", x.source(1, 1), 3);
        due.is("process 0", x.source(1, 2), 0);
        due.is("process 2", x.source(1, 3), 2);
        due.is("process 1", x.source(0, 1), 1);
        due.is("crash", x.crash(1), true);
        due.is("of one that is down", x.source(1, 3), 2);
    }

    private static void sourceBad() {
        due.begin("promise 14: \"BAD when there is no such process\"");
        for (int p : NO_PROCESS) {
            refusedEverywhere("source(" + p + ", 1)", x -> x.source(p, 1), BAD);
            refused("source(" + p + ", 0)", Scenes::atWork, x -> x.source(p, 0), BAD);
        }
    }

    private static void sourceNone() {
        due.begin("promise 14: \"NONE when the log does not keep such a message\"");
        Supplier<ReplayGroup> scene = () -> {
            ReplayGroup x = Scenes.written(0, RECEIVE, 0, 1, GOTO, 0, 0);
            for (int i = 1; i <= 8; i++) {
                x.input(0, i);
            }
            x.run(0, 6);
            x.checkpoint(0);
            x.run(0, 2);
            return x;
        };
        for (int number : new int[] {MIN_VALUE, -1, 0, 1, 2, 3, 9, 10, 23, 24, 28, MAX_VALUE}) {
            refused("source(0, " + number + ")", scene, x -> x.source(0, number), NONE);
        }
        ReplayGroup x = scene.get();
        for (int number = 4; number <= 8; number++) {
            due.is("source(0, " + number + ")", x.source(0, number), 3);
        }
        due.is("source(1, 4)", x.source(1, 4), NONE);
        due.is("crash", x.crash(0), true);
        due.is("source(0, 3), down", x.source(0, 3), NONE);
        due.is("source(0, 4), down", x.source(0, 4), 3);
        due.is("source(0, 9), down", x.source(0, 9), NONE);
    }

    private static void waitingAtItsEdges() {
        due.begin("promise 15: \"How many messages are in a channel\"");
        ReplayGroup x = Scenes.written(0, SEND, 2, 0, GOTO, 0, 0);
        for (int i = 0; i <= 8; i++) {
            due.is("waiting(0, 2)", x.waiting(0, 2), i);
            x.run(0, 2);
        }
        due.is("waiting(0, 2)", x.waiting(0, 2), 8);
        due.is("waiting(2, 0)", x.waiting(2, 0), 0);
        due.is("waiting(0, 1)", x.waiting(0, 1), 0);
        for (int i = 7; i >= 0; i--) {
            x.deliver(0, 2);
            due.is("waiting(0, 2)", x.waiting(0, 2), i);
        }
        due.is("deliver", x.deliver(0, 2), NONE);
        due.is("waiting(0, 2)", x.waiting(0, 2), 0);
        ReplayGroup down = Scenes.allDown();
        due.is("both down", down.waiting(0, 1), Scenes.atWork().waiting(0, 1));
    }

    private static void waitingBad() {
        due.begin("promise 15: \"BAD when there is no such channel\"");
        for (int p = 0; p < 3; p++) {
            int process = p;
            refusedEverywhere("waiting(" + p + ", " + p + ")", x -> x.waiting(process, process), BAD);
            for (int wrong : NO_PROCESS) {
                refused("waiting(" + p + ", " + wrong + ")", Scenes::atWork, x -> x.waiting(process, wrong), BAD);
                refused("waiting(" + wrong + ", " + p + ")", Scenes::atWork, x -> x.waiting(wrong, process), BAD);
            }
        }
    }

    private static void heldAtItsEdges() {
        due.begin("promise 16: \"How many sendings and outputs of a process were held back so far\"");
        ReplayGroup x = Scenes.written(1, SEND, 0, 0, PUT, 0, 0, SEND, 2, 0, SET, 0, 1);
        due.is("run", x.run(1, 100), 4);
        due.is("none at first", x.held(1), 0);
        for (int round = 0; round < 3; round++) {
            due.is("crash", x.crash(1), true);
            due.is("held, down", x.held(1), 3 * round);
            due.is("recover", x.recover(1), 0);
            for (int i = 1; i <= 4; i++) {
                due.is("step", x.step(1), DID);
                due.is("held", x.held(1), 3 * round + Math.min(i, 3));
            }
        }
        due.is("held of others", x.held(0) + x.held(2), 0);
    }

    private static void heldBad() {
        due.begin("promise 16: \"BAD when there is no such process\"");
        for (int p : NO_PROCESS) {
            refusedEverywhere("held(" + p + ")", x -> x.held(p), BAD);
        }
    }

    private static void outputsAtItsEdges() {
        due.begin("promise 17: \"How many outputs there are.\"");
        ReplayGroup x = Scenes.written(1, PUT, 0, 0, GOTO, 0, 0);
        for (int i = 0; i <= 60; i++) {
            due.is("outputs", x.outputs(), i);
            x.run(1, 2);
        }
        due.is("outputs", x.outputs(), 60);
        due.is("crash", x.crash(1), true);
        due.is("outputs outlive their process", x.outputs(), 60);
        due.is("recover", x.recover(1), 0);
        due.is("run", x.run(1, 100), 100);
        due.is("what is held back is none", x.outputs(), 60);
    }

    private static void authorAtItsEdges() {
        due.begin("promise 18: \"The process of output i; BAD when there is none such.\"");
        for (int i : new int[] {MIN_VALUE, -2, -1, 60, 61, MAX_VALUE}) {
            refused("author(" + i + ") of 60", Scenes::fullOutputs, x -> x.author(i), BAD);
            refused("author(" + i + ") of none", ReplayGroup::new, x -> x.author(i), BAD);
        }
        ReplayGroup x = Scenes.fullOutputs();
        due.is("author(0)", x.author(0), 0);
        due.is("author(24)", x.author(24), 0);
        due.is("author(25)", x.author(25), 1);
        due.is("author(59)", x.author(59), 1);
        ReplayGroup y = Scenes.written(2, PUT, 0, 0);
        due.is("author(0), none yet", y.author(0), BAD);
        due.is("step", y.step(2), DID);
        due.is("author(0)", y.author(0), 2);
        due.is("author(1)", y.author(1), BAD);
    }

    private static void outputAtItsEdges() {
        due.begin("promise 19: \"The value of output i; 0 when there is none such.\"");
        for (int i : new int[] {MIN_VALUE, -2, -1, 60, 61, MAX_VALUE}) {
            refused("output(" + i + ") of 60", Scenes::fullOutputs, x -> x.output(i), 0);
            refused("output(" + i + ") of none", ReplayGroup::new, x -> x.output(i), 0);
        }
        ReplayGroup x = Scenes.fullOutputs();
        due.is("output(0)", x.output(0), 2);
        due.is("output(1)", x.output(1), 6);
        due.is("output(25)", x.output(25), 3);
        due.is("output(26)", x.output(26), 9);
        ReplayGroup y = Scenes.written(2, SET, 0, MIN_VALUE, PUT, 0, 0, PUT, 1, 0);
        due.is("output(0), none yet", y.output(0), 0);
        due.is("run", y.run(2, 100), 3);
        due.is("output(0)", y.output(0), MIN_VALUE);
        due.is("output(1), a 0 that was put out", y.output(1), 0);
        due.is("author(1)", y.author(1), 2);
        due.is("output(2)", y.output(2), 0);
    }
}
