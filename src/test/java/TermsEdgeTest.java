import static java.lang.Integer.MAX_VALUE;
import static java.lang.Integer.MIN_VALUE;

import java.util.function.Supplier;
import java.util.function.ToIntFunction;

/** Each sentence of 'What it is' and 'Terms' that names a boundary case has a test of its own here. */
public final class TermsEdgeTest {
    private static final int BAD = Scenes.BAD, NONE = Scenes.NONE, FULL = Scenes.FULL;
    private static final int WAITS = Scenes.WAITS, DID = Scenes.DID, END = Scenes.END;
    private static final int SET = Scenes.SET, ADD = Scenes.ADD, TIMES = Scenes.TIMES, LESS = Scenes.LESS;
    private static final int GOTO = Scenes.GOTO, SEND = Scenes.SEND, RECEIVE = Scenes.RECEIVE, PUT = Scenes.PUT;

    private static final Due due = new Due("TermsEdgeTest");

    public static void main(String[] args) {
        scenesAreWhatTheySay();
        aLongRunOfInstructions();
        aLongRunOfMessages();
        aLongRunOfDeliveries();
        aLongRunOfCrashes();
        everyCallMayBeTheLast();
        processesAndTheOutside();
        programsHoldSixteen();
        fourRegisters();
        firstState();
        firstCheckpoint();
        channelsHoldEight();
        channelsKeepTheirOrder();
        channelsAreOnTheirOwn();
        logsKeepTwenty();
        logsKeepWhatIsAboveTheCheckpoint();
        logsKeepTheirOrder();
        outputsAreSixty();
        outputsKeepTheirOrder();
        ageAndPlace();
        sumsWrap();
        productsWrap();
        setTakesAnyValue();
        lessAtItsEdges();
        lessOverTheEnd();
        gotoAtItsEdges();
        sendNumbers();
        sendHeldBackAndTheNextOne();
        sendHeldBackThoughDelivered();
        sendHeldBackThoughFull();
        sendWaits();
        receiveNumbers();
        receiveIntoOneRegister();
        receiveWaits();
        putNumbers();
        putHeldBackAndTheNextOne();
        putHeldBackThoughFull();
        putWaits();
        waitingDoesNothing();
        endDoesNothing();
        constants();
        due.end();
    }

    private static void unchanged(String call, Supplier<ReplayGroup> scene, ToIntFunction<ReplayGroup> ask, int want) {
        Unchanged.by(due, call, scene, ask, want);
    }

    private static void crashAndRecover(ReplayGroup x, int process, int toTake) {
        due.is("crash(" + process + ")", x.crash(process), true);
        due.is("recover(" + process + ")", x.recover(process), toTake);
    }

    private static void scenesAreWhatTheySay() {
        due.begin("the scenes of the tests");
        ReplayGroup work = Scenes.atWork();
        for (int p = 0; p < 3; p++) {
            due.is("messages from " + p, work.waiting(p, (p + 1) % 3) > 0 && work.waiting(p, (p + 2) % 3) > 0, true);
            due.is("a log of " + p, work.kept(p) > 0 && work.source(p, 1) == NONE, true);
            due.is("outputs of " + p, work.state(p, 3) > 0, true);
        }
        ReplayGroup back = Scenes.comingBack();
        due.is("process 1 is not as old as before", back.state(1, 1) < work.state(1, 1), true);
        due.is("process 1 holds something back", back.held(1) > 0, true);
        ReplayGroup channels = Scenes.fullChannels();
        ReplayGroup logs = Scenes.fullLogs();
        for (int p = 0; p < 3; p++) {
            due.is("channels", channels.waiting(p, (p + 1) % 3) + channels.waiting(p, (p + 2) % 3), 16);
            due.is("step", channels.step(p), WAITS);
            due.is("kept", logs.kept(p), 20);
        }
        due.is("outputs", Scenes.fullOutputs().outputs(), 60);
    }

    private static void aLongRunOfInstructions() {
        due.begin("\"An object is used for at most 512 calls\": instructions");
        ReplayGroup x = Scenes.written(2, GOTO, 0, 0);
        for (int call = 2; call < 512; call++) {
            due.is("run(2, 100)", x.run(2, 100), 100);
        }
        due.is("the age at call 512", x.state(2, 1), 51000);
    }

    private static void aLongRunOfMessages() {
        due.begin("\"An object is used for at most 512 calls\": messages from outside");
        ReplayGroup x = Scenes.written(0, RECEIVE, 0, 1, GOTO, 0, 0);
        for (int i = 1; i <= 169; i++) {
            due.is("input", x.input(0, 1000 + i), i);
            due.is("run", x.run(0, 2), 2);
            due.is("checkpoint", x.checkpoint(0), 1);
        }
        due.is("register at call 510", x.register(0, 0), 1169);
        due.is("input at call 511", x.input(0, 5), 170);
        due.is("source at call 512", x.source(0, 170), 3);
    }

    private static void aLongRunOfDeliveries() {
        due.begin("\"An object is used for at most 512 calls\": deliveries");
        ReplayGroup x = Scenes.written(0, SET, 1, 5, SEND, 2, 0, ADD, 0, 1, GOTO, 1, 0);
        Scenes.write(x, 2, RECEIVE, 2, 3, GOTO, 0, 0);
        due.is("step", x.step(0), DID);
        for (int i = 1; i <= 126; i++) {
            due.is("run(0, 3)", x.run(0, 3), 3);
            due.is("deliver(0, 2)", x.deliver(0, 2), i);
            due.is("run(2, 2)", x.run(2, 2), 2);
            due.is("checkpoint(2)", x.checkpoint(2), 1);
        }
        due.is("register at call 512", x.register(2, 2), 5 * 125);
    }

    private static void aLongRunOfCrashes() {
        due.begin("\"An object is used for at most 512 calls\": crashes");
        ReplayGroup x = Scenes.written(1, PUT, 0, 0, GOTO, 0, 0);
        due.is("run", x.run(1, 100), 100);
        for (int i = 1; i <= 169; i++) {
            crashAndRecover(x, 1, 0);
            due.is("run", x.run(1, 100), 100);
        }
        due.is("outputs at call 511", x.outputs(), 50);
        due.is("held at call 512", x.held(1), 50 * 169);
    }

    private static void everyCallMayBeTheLast() {
        due.begin("\"An object is used for at most 512 calls\": the last call");
        last("code", x -> x.code(0, PUT, 0, 0) ? 1 : 0, 1);
        last("input", x -> x.input(0, 5), 2);
        last("deliver", x -> x.deliver(1, 0), 2);
        last("step", x -> x.step(1), WAITS);
        last("run", x -> x.run(0, 100), 1);
        last("checkpoint", x -> x.checkpoint(1), 0);
        last("crash", x -> x.crash(1) ? 1 : 0, 1);
        last("recover", x -> x.recover(2), 0);
        last("register", x -> x.register(1, 3), 44);
        last("state", x -> x.state(1, 1), 18);
        last("sent", x -> x.sent(1, 0), 8);
        last("kept", x -> x.kept(0), 1);
        last("source", x -> x.source(0, 1), 3);
        last("waiting", x -> x.waiting(1, 0), 8);
        last("held", x -> x.held(2), 0);
        last("outputs", x -> x.outputs(), 1);
        last("author", x -> x.author(0), 1);
        last("output", x -> x.output(0), 44);
    }

    /** Asks for an answer with the 512th call of an object that did some work before. */
    private static void last(String call, ToIntFunction<ReplayGroup> ask, int want) {
        ReplayGroup x = Scenes.written(0, RECEIVE, 0, 1);
        Scenes.write(x, 1, SET, 3, 44, PUT, 3, 0, SEND, 0, 3, GOTO, 2, 0);
        x.input(0, 9);
        x.crash(2);
        x.run(1, 100);
        for (int number = 9; number < 512; number++) {
            x.kept(1);
        }
        due.is(call, ask.applyAsInt(x), want);
    }

    private static void processesAndTheOutside() {
        due.begin("\"PROCESSES are 0, 1, 2; 3 stands for the outside.\"");
        ReplayGroup x = new ReplayGroup();
        for (int p = -1; p <= 3; p++) {
            boolean isOne = p >= 0 && p <= 2;
            due.is("code of " + p, x.code(p, RECEIVE, 0, 1), isOne);
            due.is("input of " + p, x.input(p, 60 + p), isOne ? 1 : BAD);
            due.is("step of " + p, x.step(p), isOne ? DID : BAD);
            due.is("value, " + p, x.register(p, 0), isOne ? 60 + p : 0);
            due.is("where it came from, " + p, x.register(p, 1), isOne ? 3 : 0);
            due.is("source of " + p, x.source(p, 1), isOne ? 3 : BAD);
        }
        due.is("a channel from the outside", x.waiting(3, 0), BAD);
        due.is("a channel to the outside", x.waiting(0, 3), BAD);
    }

    private static void programsHoldSixteen() {
        due.begin("\"a PROGRAM of at most 16 instructions, numbered from 0\"");
        for (int p = 0; p < 3; p++) {
            ReplayGroup x = new ReplayGroup();
            due.is("instruction 0", x.code(p, GOTO, 15, 0), true);
            for (int i = 1; i < 15; i++) {
                due.is("instruction " + i, x.code(p, SET, 0, i), true);
            }
            due.is("instruction 15", x.code(p, SET, 1, 99), true);
            due.is("instruction 16", x.code(p, SET, 2, 98), false);
            due.is("run", x.run(p, 100), 2);
            due.is("the last one was done", x.register(p, 1), 99);
            due.is("none of the middle", x.register(p, 0), 0);
            due.is("none behind", x.register(p, 2), 0);
            due.is("the place", x.state(p, 0), 16);
            due.is("step", x.step(p), END);
        }
    }

    private static void fourRegisters() {
        due.begin("\"four registers 0 .. 3 (ints)\"");
        ReplayGroup x = Scenes.written(0, SET, 0, MIN_VALUE, SET, 1, MAX_VALUE, SET, 2, -1, SET, 3, 7);
        due.is("run", x.run(0, 100), 4);
        int[] values = {MIN_VALUE, MAX_VALUE, -1, 7};
        for (int r = 0; r < 4; r++) {
            due.is("register(0, " + r + ")", x.register(0, r), values[r]);
            due.is("register(1, " + r + ")", x.register(1, r), 0);
        }
        due.is("register(0, -1)", x.register(0, -1), 0);
        due.is("register(0, 4)", x.register(0, 4), 0);
    }

    private static void firstState() {
        due.begin("\"In the FIRST STATE all of these are 0. .. all are up at first, in the first state.\"");
        for (int p = 0; p < 3; p++) {
            isFirstState(new ReplayGroup(), p);
            due.is("recover of one that is up", new ReplayGroup().recover(p), NONE);
            due.is("crash of one that is up", new ReplayGroup().crash(p), true);
        }
    }

    private static void isFirstState(ReplayGroup x, int p) {
        for (int i = 0; i < 4; i++) {
            due.is("register(" + p + ", " + i + ")", x.register(p, i), 0);
            due.is("state(" + p + ", " + i + ")", x.state(p, i), 0);
        }
        due.is("sent", x.sent(p, (p + 1) % 3), 0);
        due.is("sent", x.sent(p, (p + 2) % 3), 0);
    }

    private static void firstCheckpoint() {
        due.begin("\"Each has a CHECKPOINT, a state, at first the first one.\"");
        for (int p = 0; p < 3; p++) {
            ReplayGroup x = Scenes.written(p, RECEIVE, 0, 1, SET, 2, 9, SET, 3, 8,
                SEND, (p + 1) % 3, 0, SEND, (p + 2) % 3, 0, PUT, 0, 0);
            x.input(p, 5);
            due.is("run", x.run(p, 100), 6);
            crashAndRecover(x, p, 1);
            isFirstState(x, p);
            due.is("all again", x.run(p, 100), 6);
            due.is("register", x.register(p, 0), 5);
        }
    }

    private static void channelsHoldEight() {
        due.begin("\"A CHANNEL .. holds at most 8 messages\"");
        ReplayGroup x = Scenes.counting();
        due.is("run with a 7th message", x.run(0, 2 + 3 * 7), 23);
        due.is("waiting", x.waiting(0, 1), 7);
        due.is("the 8th message", x.step(0), DID);
        due.is("waiting", x.waiting(0, 1), 8);
        due.is("on to the 9th", x.run(0, 100), 2);
        due.is("the 9th message", x.step(0), WAITS);
        due.is("waiting", x.waiting(0, 1), 8);
        due.is("one leaves", x.deliver(0, 1), 1);
        due.is("the 9th message", x.step(0), DID);
        due.is("the 10th message", x.run(0, 100), 2);
        due.is("waiting", x.waiting(0, 1), 8);
        due.is("sent", x.sent(0, 1), 9);
    }

    private static void channelsKeepTheirOrder() {
        due.begin("\"numbered 1, 2, .. in the order in which they were sent over it\"");
        ReplayGroup x = Scenes.counting();
        for (int round = 0; round < 4; round++) {
            x.run(0, 100);
            for (int i = 1; i <= 5; i++) {
                due.is("deliver", x.deliver(0, 1), 5 * round + i);
            }
        }
        due.is("run", x.run(1, 60), 60);
        for (int i = 0; i < 20; i++) {
            due.is("output(" + i + ")", x.output(i), i + 1);
        }
        due.is("waiting", x.waiting(0, 1), 3);
    }

    private static void channelsAreOnTheirOwn() {
        due.begin("\"A CHANNEL from each process to each other one\"");
        for (int from = 0; from < 3; from++) {
            for (int to = 0; to < 3; to++) {
                if (from != to) {
                    ReplayGroup x = Scenes.written(from, SEND, to, 0, GOTO, 0, 0);
                    due.is("run", x.run(from, 100), 16);
                    onlyOneHasMessages(x, from, to);
                }
            }
        }
    }

    private static void onlyOneHasMessages(ReplayGroup x, int from, int to) {
        for (int f = 0; f < 3; f++) {
            for (int t = 0; t < 3; t++) {
                int want = f == t ? BAD : f == from && t == to ? 8 : 0;
                due.is("waiting(" + f + ", " + t + ")", x.waiting(f, t), want);
                due.is("sent(" + f + ", " + t + ")", x.sent(f, t), want);
            }
        }
    }

    private static void logsKeepTwenty() {
        due.begin("\"The log keeps at most 20 messages\"");
        for (int p = 0; p < 3; p++) {
            ReplayGroup x = Scenes.written((p + 1) % 3, SEND, p, 0, GOTO, 0, 0);
            x.run((p + 1) % 3, 100);
            for (int i = 1; i <= 19; i++) {
                due.is("input", x.input(p, i), i);
            }
            due.is("the 20th, over a channel", x.deliver((p + 1) % 3, p), 20);
            due.is("kept", x.kept(p), 20);
            due.is("the 21st, from outside", x.input(p, 21), FULL);
            due.is("the 21st, over a channel", x.deliver((p + 1) % 3, p), FULL);
            due.is("kept", x.kept(p), 20);
            due.is("waiting", x.waiting((p + 1) % 3, p), 7);
            due.is("kept of another", x.kept((p + 1) % 3), 0);
            due.is("input of another", x.input((p + 1) % 3, 5), 1);
        }
    }

    private static void logsKeepWhatIsAboveTheCheckpoint() {
        due.begin("\"The log keeps .. those with a number above what the checkpoint took.\"");
        ReplayGroup x = Scenes.written(0, RECEIVE, 0, 1, GOTO, 0, 0);
        for (int i = 1; i <= 20; i++) {
            x.input(0, i);
        }
        due.is("run", x.run(0, 14), 14);
        due.is("taken ones are kept", x.kept(0), 20);
        due.is("a log that is taken from is full all the same", x.input(0, 21), FULL);
        due.is("checkpoint", x.checkpoint(0), 7);
        due.is("kept", x.kept(0), 13);
        due.is("what the checkpoint took", x.source(0, 7), NONE);
        due.is("the first above it", x.source(0, 8), 3);
        due.is("the last", x.source(0, 20), 3);
        due.is("run", x.run(0, 100), 26);
        for (int i = 21; i <= 27; i++) {
            due.is("room for 7", x.input(0, i), i);
        }
        due.is("and no more", x.input(0, 28), FULL);
        crashAndRecover(x, 0, 20);
        due.is("full after a crash too", x.input(0, 28), FULL);
        due.is("run", x.run(0, 100), 40);
        due.is("checkpoint", x.checkpoint(0), 20);
        due.is("kept", x.kept(0), 0);
        due.is("the log counts on", x.input(0, 28), 28);
    }

    private static void logsKeepTheirOrder() {
        due.begin("\"numbered 1, 2, .. in the order in which they came into it\"");
        ReplayGroup x = Scenes.written(1, RECEIVE, 0, 1, PUT, 0, 0, PUT, 1, 0, GOTO, 0, 0);
        Scenes.write(x, 0, SET, 0, 100, SET, 1, 1, SEND, 1, 0, ADD, 0, 1, GOTO, 2, 0);
        Scenes.write(x, 2, SET, 0, 200, SET, 1, 1, SEND, 1, 0, ADD, 0, 1, GOTO, 2, 0);
        x.run(0, 100);
        x.run(2, 100);
        int[] origins = {2, 0, 3, 0, 2, 2, 3, 0};
        int[] values = {200, 100, 300, 101, 201, 202, 306, 102};
        for (int i = 0; i < origins.length; i++) {
            int number = origins[i] == 3 ? x.input(1, values[i]) : x.deliver(origins[i], 1);
            due.is("its number", number, i + 1);
            due.is("source", x.source(1, i + 1), origins[i]);
        }
        due.is("run", x.run(1, 100), 4 * origins.length);
        for (int i = 0; i < origins.length; i++) {
            due.is("value " + i, x.output(2 * i), values[i]);
            due.is("where it came from " + i, x.output(2 * i + 1), origins[i]);
        }
    }

    private static void outputsAreSixty() {
        due.begin("\"OUTPUTS .. there are at most 60.\"");
        ReplayGroup x = Scenes.written(0, PUT, 0, 0, GOTO, 0, 0);
        Scenes.write(x, 2, SET, 0, 9, PUT, 0, 0, PUT, 0, 0);
        due.is("run", x.run(0, 100), 100);
        due.is("run", x.run(0, 17), 17);
        due.is("outputs", x.outputs(), 59);
        due.is("the 60th", x.run(2, 2), 2);
        due.is("outputs", x.outputs(), 60);
        due.is("the 61st of the same", x.step(2), WAITS);
        due.is("on to the 61st", x.step(0), DID);
        due.is("the 61st of another", x.step(0), WAITS);
        due.is("outputs", x.outputs(), 60);
        due.is("author(59)", x.author(59), 2);
        due.is("output(59)", x.output(59), 9);
        due.is("author(60)", x.author(60), BAD);
    }

    private static void outputsKeepTheirOrder() {
        due.begin("\"OUTPUTS .. numbered 0, 1, .. in the order in which they came\"");
        ReplayGroup x = new ReplayGroup();
        for (int p = 0; p < 3; p++) {
            Scenes.write(x, p, SET, 0, 100 * p, SET, 1, 1, PUT, 0, 0, ADD, 0, 1, GOTO, 2, 0);
            x.run(p, 2);
        }
        for (int round = 0; round < 20; round++) {
            for (int p = 2; p >= 0; p--) {
                due.is("run", x.run(p, 3), 3);
            }
        }
        for (int i = 0; i < 60; i++) {
            due.is("author(" + i + ")", x.author(i), 2 - i % 3);
            due.is("output(" + i + ")", x.output(i), 100 * (2 - i % 3) + i / 3);
        }
    }

    private static void ageAndPlace() {
        due.begin("\"Doing one makes the age 1 more, and the place 1 more unless something else is said.\"");
        int[][] program = {
            {SET, 0, 5}, {ADD, 0, 0}, {TIMES, 0, 0}, {LESS, 0, 0}, {SEND, 1, 0}, {RECEIVE, 0, 0}, {PUT, 0, 0}, {GOTO, 8, 0},
        };
        ReplayGroup x = new ReplayGroup();
        for (int[] row : program) {
            x.code(0, row[0], row[1], row[2]);
        }
        x.input(0, 1);
        for (int i = 1; i <= program.length; i++) {
            due.is("step", x.step(0), DID);
            due.is("the place", x.state(0, 0), i);
            due.is("the age", x.state(0, 1), i);
        }
        ReplayGroup y = Scenes.countingAgain();
        due.is("held back, step", y.step(0), DID);
        due.is("held back, the place", y.state(0, 0), 3);
        due.is("held back, the age", y.state(0, 1), 3);
        due.is("held back, sent", y.sent(0, 1), 1);
    }

    /** Does one ADD or TIMES on two values; answers the register that is to change. */
    private static int combined(int op, int left, int right) {
        ReplayGroup x = Scenes.written(1, SET, 2, left, SET, 3, right, op, 2, 3);
        due.is("run", x.run(1, 100), 3);
        due.is("the other register", x.register(1, 3), right);
        return x.register(1, 2);
    }

    private static void sumsWrap() {
        due.begin("\"Registers wrap as ints do.\": sums");
        due.is("highest + 1", combined(ADD, MAX_VALUE, 1), MIN_VALUE);
        due.is("lowest + -1", combined(ADD, MIN_VALUE, -1), MAX_VALUE);
        due.is("highest + highest", combined(ADD, MAX_VALUE, MAX_VALUE), -2);
        due.is("lowest + lowest", combined(ADD, MIN_VALUE, MIN_VALUE), 0);
        due.is("highest + lowest", combined(ADD, MAX_VALUE, MIN_VALUE), -1);
        due.is("highest + 0", combined(ADD, MAX_VALUE, 0), MAX_VALUE);
        ReplayGroup x = Scenes.written(0, SET, 1, 1 << 30, ADD, 1, 1, ADD, 1, 1);
        due.is("run", x.run(0, 2), 2);
        due.is("doubled", x.register(0, 1), MIN_VALUE);
        due.is("run", x.run(0, 1), 1);
        due.is("doubled again", x.register(0, 1), 0);
    }

    private static void productsWrap() {
        due.begin("\"Registers wrap as ints do.\": products");
        due.is("highest * 2", combined(TIMES, MAX_VALUE, 2), -2);
        due.is("lowest * -1", combined(TIMES, MIN_VALUE, -1), MIN_VALUE);
        due.is("lowest * 2", combined(TIMES, MIN_VALUE, 2), 0);
        due.is("highest * highest", combined(TIMES, MAX_VALUE, MAX_VALUE), 1);
        due.is("65536 * 65536", combined(TIMES, 65536, 65536), 0);
        due.is("65536 * 32768", combined(TIMES, 65536, 32768), MIN_VALUE);
        due.is("123456789 * 987654321", combined(TIMES, 123456789, 987654321), -67153019);
        due.is("-3 * 5", combined(TIMES, -3, 5), -15);
        ReplayGroup x = Scenes.written(0, SET, 1, 65537, TIMES, 1, 1);
        due.is("run", x.run(0, 2), 2);
        due.is("squared", x.register(0, 1), 131073);
    }

    private static void setTakesAnyValue() {
        due.begin("\"SET: register a becomes b.\"");
        for (int value : new int[] {MIN_VALUE, -1, 0, 1, 4, 16, MAX_VALUE}) {
            ReplayGroup x = Scenes.written(0, SET, 3, value);
            due.is("step", x.step(0), DID);
            due.is("register", x.register(0, 3), value);
        }
    }

    private static void lessAtItsEdges() {
        due.begin("\"LESS: if register a is less than register b, the place becomes 2 more.\"");
        int[][] pairs = {
            {0, 0}, {0, 1}, {1, 0}, {-1, 0}, {0, -1}, {MAX_VALUE, MAX_VALUE}, {MAX_VALUE - 1, MAX_VALUE},
            {MIN_VALUE, MIN_VALUE}, {MIN_VALUE, MAX_VALUE}, {MAX_VALUE, MIN_VALUE}, {MIN_VALUE, 1}, {1, MIN_VALUE},
            {-2, MAX_VALUE}, {MAX_VALUE, -2},
        };
        for (int[] pair : pairs) {
            ReplayGroup x = Scenes.written(0, SET, 0, pair[0], SET, 3, pair[1], LESS, 0, 3, PUT, 0, 0, PUT, 3, 0);
            due.is("run", x.run(0, 3), 3);
            due.is("the place, " + pair[0] + " and " + pair[1], x.state(0, 0), pair[0] < pair[1] ? 4 : 3);
            due.is("the age", x.state(0, 1), 3);
            due.is("register a", x.register(0, 0), pair[0]);
            due.is("register b", x.register(0, 3), pair[1]);
            due.is("what is left", x.run(0, 100), pair[0] < pair[1] ? 1 : 2);
        }
        ReplayGroup same = Scenes.written(0, SET, 0, 5, LESS, 0, 0);
        due.is("run", same.run(0, 100), 2);
        due.is("the place, a register and itself", same.state(0, 0), 2);
    }

    private static void lessOverTheEnd() {
        due.begin("\"the place becomes 2 more\" over the end");
        ReplayGroup x = Scenes.written(0, SET, 1, 1, GOTO, 15, 0);
        for (int i = 2; i < 15; i++) {
            x.code(0, SET, 2, i);
        }
        due.is("instruction 15", x.code(0, LESS, 0, 1), true);
        due.is("run", x.run(0, 100), 3);
        due.is("the place", x.state(0, 0), 17);
        due.is("step", x.step(0), END);
        due.is("checkpoint", x.checkpoint(0), 0);
        crashAndRecover(x, 0, 0);
        due.is("the place", x.state(0, 0), 17);
        due.is("step", x.step(0), END);
    }

    private static void gotoAtItsEdges() {
        due.begin("\"GOTO: the place becomes a.\"");
        ReplayGroup self = Scenes.written(0, GOTO, 0, 0);
        due.is("to itself", self.run(0, 100), 100);
        due.is("the place", self.state(0, 0), 0);
        due.is("the age", self.state(0, 1), 100);
        ReplayGroup behind = Scenes.written(0, GOTO, 1, 0);
        due.is("right behind the end", behind.run(0, 100), 1);
        due.is("the place", behind.state(0, 0), 1);
        ReplayGroup far = Scenes.written(0, SET, 0, 1, GOTO, 15, 0);
        due.is("far behind the end", far.run(0, 100), 2);
        due.is("the place", far.state(0, 0), 15);
        due.is("step", far.step(0), END);
        ReplayGroup back = Scenes.fullPrograms();
        due.is("from 15 to 0", back.run(1, 17), 17);
        due.is("the place", back.state(1, 0), 1);
    }

    private static void sendNumbers() {
        due.begin("\"as the message with the number 1 more than the state sent to that process\"");
        ReplayGroup x = Scenes.written(0, SEND, 1, 0, SEND, 2, 0, SEND, 2, 0, SEND, 1, 0, SEND, 2, 0);
        int[] toOne = {1, 1, 1, 2, 2};
        int[] toTwo = {0, 1, 2, 2, 3};
        for (int again = 0; again < 2; again++) {
            for (int i = 0; i < 5; i++) {
                due.is("step", x.step(0), DID);
                due.is("sent(0, 1)", x.sent(0, 1), toOne[i]);
                due.is("sent(0, 2)", x.sent(0, 2), toTwo[i]);
                due.is("waiting(0, 1)", x.waiting(0, 1), again == 1 ? 2 : toOne[i]);
                due.is("waiting(0, 2)", x.waiting(0, 2), again == 1 ? 3 : toTwo[i]);
                due.is("held(0)", x.held(0), again == 1 ? i + 1 : 0);
            }
            crashAndRecover(x, 0, 0);
        }
    }

    private static void sendHeldBackAndTheNextOne() {
        due.begin("\"If a message with this number was sent over the channel before, it is HELD BACK.\"");
        ReplayGroup x = Scenes.counting();
        due.is("three are sent", x.run(0, 2 + 3 * 2 + 1), 9);
        crashAndRecover(x, 0, 0);
        due.is("two again", x.run(0, 2 + 3 * 2), 8);
        due.is("held", x.held(0), 2);
        due.is("the third again", x.run(0, 3), 3);
        due.is("held", x.held(0), 3);
        due.is("waiting", x.waiting(0, 1), 3);
        due.is("the fourth", x.run(0, 1), 1);
        due.is("held", x.held(0), 3);
        due.is("waiting", x.waiting(0, 1), 4);
        for (int i = 1; i <= 4; i++) {
            due.is("deliver", x.deliver(0, 1), i);
        }
        due.is("run", x.run(1, 100), 12);
        for (int i = 0; i < 4; i++) {
            due.is("output(" + i + ")", x.output(i), i + 1);
        }
    }

    private static void sendHeldBackThoughDelivered() {
        due.begin("\"was sent over the channel before\", and is in it no more");
        ReplayGroup x = Scenes.counting();
        due.is("two are sent", x.run(0, 6), 6);
        due.is("deliver", x.deliver(0, 1), 1);
        due.is("deliver", x.deliver(0, 1), 2);
        due.is("taken", x.run(1, 100), 6);
        due.is("forgotten", x.checkpoint(1), 2);
        crashAndRecover(x, 0, 0);
        due.is("both again", x.run(0, 6), 6);
        due.is("held", x.held(0), 2);
        due.is("waiting", x.waiting(0, 1), 0);
        due.is("deliver", x.deliver(0, 1), NONE);
        due.is("a third one", x.run(0, 3), 3);
        due.is("held", x.held(0), 2);
        due.is("deliver", x.deliver(0, 1), 3);
        due.is("run", x.run(1, 2), 2);
        due.is("its value", x.output(2), 3);
    }

    private static void sendHeldBackThoughFull() {
        due.begin("\"Otherwise it comes into the channel; if 8 are there\": what is held back needs no room");
        ReplayGroup x = Scenes.countingAgain();
        due.is("all 8 again, up to the 9th", x.run(0, 100), 24);
        due.is("held", x.held(0), 8);
        due.is("sent", x.sent(0, 1), 8);
        due.is("waiting", x.waiting(0, 1), 8);
        due.is("the 9th", x.step(0), WAITS);
        due.is("held", x.held(0), 8);
        due.is("deliver", x.deliver(0, 1), 1);
        due.is("the 9th", x.step(0), DID);
        due.is("held", x.held(0), 8);
        due.is("waiting", x.waiting(0, 1), 8);
    }

    private static void sendWaits() {
        due.begin("\"if 8 are there, the process waits\"");
        for (int p = 0; p < 3; p++) {
            int process = p;
            unchanged("step(" + p + ")", Scenes::fullChannels, x -> x.step(process), WAITS);
            unchanged("run(" + p + ", 5)", Scenes::fullChannels, x -> x.run(process, 5), 0);
        }
        ReplayGroup x = Scenes.fullChannels();
        due.is("crash(1)", x.crash(1), true);
        due.is("to one that is down", x.step(0), WAITS);
        due.is("recover(1)", x.recover(1), 0);
        due.is("deliver(0, 1)", x.deliver(0, 1), 1);
        due.is("crash(1)", x.crash(1), true);
        due.is("to one that is down, with room", x.step(0), DID);
        due.is("the other channel is full too", x.step(0), WAITS);
    }

    private static void receiveNumbers() {
        due.begin("\"the message with the number 1 more than the state took is taken from the log\"");
        ReplayGroup x = Scenes.written(0, RECEIVE, 0, 1, RECEIVE, 2, 1, RECEIVE, 3, 1);
        for (int i = 1; i <= 3; i++) {
            x.input(0, 10 * i);
        }
        due.is("run", x.run(0, 1), 1);
        due.is("register", x.register(0, 0), 10);
        due.is("took", x.state(0, 2), 1);
        due.is("checkpoint", x.checkpoint(0), 1);
        due.is("run", x.run(0, 2), 2);
        crashAndRecover(x, 0, 2);
        due.is("took", x.state(0, 2), 1);
        due.is("run", x.run(0, 1), 1);
        due.is("the second again, not the first", x.register(0, 2), 20);
        due.is("run", x.run(0, 1), 1);
        due.is("register", x.register(0, 3), 30);
        due.is("took", x.state(0, 2), 3);
        due.is("run", x.run(0, 1), 0);
    }

    private static void receiveIntoOneRegister() {
        due.begin("\"the value is what counts when a is b\"");
        for (int r = 0; r < 4; r++) {
            ReplayGroup x = Scenes.written(2, RECEIVE, r, r, RECEIVE, r, (r + 1) % 4);
            x.input(2, 70);
            x.input(2, 80);
            due.is("step", x.step(2), DID);
            due.is("register " + r, x.register(2, r), 70);
            due.is("step", x.step(2), DID);
            due.is("register " + r, x.register(2, r), 80);
            due.is("register " + (r + 1) % 4, x.register(2, (r + 1) % 4), 3);
        }
    }

    private static void receiveWaits() {
        due.begin("\"If the log has none such, the process waits.\"");
        unchanged("step(0)", Scenes::waitingForMessages, x -> x.step(0), WAITS);
        unchanged("step(1)", Scenes::waitingForMessages, x -> x.step(1), WAITS);
        unchanged("run(0, 1)", Scenes::waitingForMessages, x -> x.run(0, 1), 0);
        unchanged("run(1, 100)", Scenes::waitingForMessages, x -> x.run(1, 100), 0);
        ReplayGroup x = Scenes.waitingForMessages();
        due.is("a message to another", x.input(2, 5), 1);
        due.is("step(0)", x.step(0), WAITS);
        due.is("a message", x.input(0, 5), 1);
        due.is("step(0)", x.step(0), DID);
    }

    private static void putNumbers() {
        due.begin("\"as the one with the number 1 more than the state put out\"");
        ReplayGroup x = Scenes.written(0, PUT, 0, 0, PUT, 0, 0, PUT, 0, 0);
        Scenes.write(x, 1, PUT, 0, 0, PUT, 0, 0);
        for (int i = 1; i <= 3; i++) {
            due.is("step", x.step(0), DID);
            due.is("put out", x.state(0, 3), i);
        }
        due.is("another has numbers of its own", x.step(1), DID);
        due.is("put out", x.state(1, 3), 1);
        due.is("outputs", x.outputs(), 4);
        due.is("held", x.held(1), 0);
    }

    private static void putHeldBackAndTheNextOne() {
        due.begin("\"If this process put one with this number out before, it is held back.\"");
        ReplayGroup x = Scenes.written(0, SET, 0, 5, PUT, 0, 0, ADD, 0, 0, PUT, 0, 0, ADD, 0, 0, PUT, 0, 0);
        Scenes.write(x, 1, SET, 0, 6, PUT, 0, 0, PUT, 0, 0, PUT, 0, 0, PUT, 0, 0);
        due.is("two", x.run(0, 4), 4);
        due.is("two of another", x.run(1, 3), 3);
        crashAndRecover(x, 0, 0);
        due.is("one again", x.run(0, 2), 2);
        due.is("held", x.held(0), 1);
        due.is("put out", x.state(0, 3), 1);
        due.is("two again", x.run(0, 2), 2);
        due.is("held", x.held(0), 2);
        due.is("outputs", x.outputs(), 4);
        due.is("the third", x.run(0, 2), 2);
        due.is("held", x.held(0), 2);
        due.is("outputs", x.outputs(), 5);
        due.is("output(4)", x.output(4), 20);
        due.is("the other holds nothing back", x.run(1, 100), 2);
        due.is("held", x.held(1), 0);
        due.is("outputs", x.outputs(), 7);
    }

    private static void putHeldBackThoughFull() {
        due.begin("\"Otherwise it becomes an output; if there are 60\": what is held back needs no room");
        ReplayGroup x = Scenes.fullOutputs();
        crashAndRecover(x, 0, 0);
        due.is("all 25 again, up to the 26th", x.run(0, 100), 2 + 3 * 25);
        due.is("held", x.held(0), 25);
        due.is("put out", x.state(0, 3), 25);
        due.is("the 26th", x.step(0), WAITS);
        due.is("held", x.held(0), 25);
        due.is("outputs", x.outputs(), 60);
    }

    private static void putWaits() {
        due.begin("\"if there are 60, the process waits\"");
        for (int p = 0; p < 2; p++) {
            int process = p;
            unchanged("step(" + p + ")", Scenes::fullOutputs, x -> x.step(process), WAITS);
            unchanged("run(" + p + ", 5)", Scenes::fullOutputs, x -> x.run(process, 5), 0);
        }
        ReplayGroup x = Scenes.fullOutputs();
        due.is("one that put none out yet", x.run(2, 100), 2);
        due.is("step", x.step(2), WAITS);
        due.is("put out", x.state(2, 3), 0);
    }

    private static void waitingDoesNothing() {
        due.begin("\"A process that WAITS does nothing.\"");
        unchanged("to receive", Scenes::waitingForMessages, x -> x.step(1), WAITS);
        unchanged("to send", Scenes::fullChannels, x -> x.step(0), WAITS);
        unchanged("to put out", Scenes::fullOutputs, x -> x.step(0), WAITS);
        ReplayGroup x = Scenes.waitingForMessages();
        due.is("step", x.step(0), WAITS);
        due.is("step", x.step(1), WAITS);
        due.is("code of one that did nothing but wait", x.code(0, SET, 0, 9), true);
        due.is("of one that did something before it waited", x.code(1, SET, 0, 9), false);
        due.is("the age", x.state(1, 1), 4);
        due.is("the place", x.state(1, 0), 4);
    }

    private static void endDoesNothing() {
        due.begin("\"It is at its END when no instruction is at its place; it does nothing then either.\"");
        for (int p = 0; p < 3; p++) {
            int process = p;
            unchanged("step(" + p + ")", Scenes::ended, x -> x.step(process), END);
            unchanged("run(" + p + ", 1)", Scenes::ended, x -> x.run(process, 1), 0);
        }
        ReplayGroup x = Scenes.ended();
        due.is("an end without instructions", x.step(2), END);
        due.is("an instruction comes there", x.code(2, SET, 0, 9), true);
        due.is("the end is further on", x.step(2), DID);
        due.is("step", x.step(2), END);
        due.is("register", x.register(2, 0), 9);
    }

    private static void constants() {
        due.begin("the constants");
        due.is("BAD", ReplayGroup.BAD, -1);
        due.is("DOWN", ReplayGroup.DOWN, -2);
        due.is("NONE", ReplayGroup.NONE, -3);
        due.is("FULL", ReplayGroup.FULL, -4);
        due.is("WAITS", ReplayGroup.WAITS, 0);
        due.is("DID", ReplayGroup.DID, 1);
        due.is("END", ReplayGroup.END, 2);
        ReplayGroup x = Scenes.oneDown();
        due.is("a call with no such process", x.step(3), ReplayGroup.BAD);
        due.is("a call of one that is down", x.step(1), ReplayGroup.DOWN);
        due.is("recover of one that is up", x.recover(0), ReplayGroup.NONE);
        due.is("input into a full log", Scenes.fullLogs().input(0, 1), ReplayGroup.FULL);
        due.is("a step that waits", Scenes.waitingForMessages().step(0), ReplayGroup.WAITS);
        due.is("a step", Scenes.allWritten().step(0), ReplayGroup.DID);
        due.is("a step at the end", Scenes.ended().step(0), ReplayGroup.END);
    }
}
