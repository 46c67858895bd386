/** The promises of the document one by one: ordinary inputs, the edges it names, and wrong inputs. */
public final class PromiseTest {
    private static final int BAD = -1, DOWN = -2, NONE = -3, FULL = -4;
    private static final int WAITS = 0, DID = 1, END = 2;
    private static final int SET = 0, ADD = 1, TIMES = 2, LESS = 3, GOTO = 4, SEND = 5, RECEIVE = 6, PUT = 7;
    private static final int[] NO_PROCESS = {-1, 3, 4, Integer.MIN_VALUE, Integer.MAX_VALUE};
    private static final int[] NO_REGISTER = {-1, 4, 5, Integer.MIN_VALUE, Integer.MAX_VALUE};

    private static final Due due = new Due("PromiseTest");

    public static void main(String[] args) {
        newObject();
        codeRegisters();
        codeOtherNumbers();
        codeLimits();
        codeAfterDoing();
        inputNumbers();
        inputRefused();
        deliverOrder();
        deliverRefused();
        stepAnswers();
        stepArithmetic();
        stepLess();
        stepGoto();
        stepSend();
        stepReceive();
        stepPut();
        runCounts();
        runRefused();
        checkpointDrops();
        checkpointKeepsState();
        crashAnswers();
        recoverAnswers();
        recoverHoldsBack();
        registerAnswers();
        stateAnswers();
        sentAnswers();
        keptAnswers();
        sourceAnswers();
        waitingAnswers();
        heldAnswers();
        outputsAnswers();
        objectsAreApart();
        due.end();
    }

    /** A new object with instructions, four numbers each: process, op, a, b. */
    private static ReplayGroup coded(int... rows) {
        ReplayGroup x = new ReplayGroup();
        for (int i = 0; i < rows.length; i += 4) {
            due.is("code(" + rows[i] + ", " + rows[i + 1] + ", " + rows[i + 2] + ", " + rows[i + 3] + ")",
                x.code(rows[i], rows[i + 1], rows[i + 2], rows[i + 3]), true);
        }
        return x;
    }

    private static void newObject() {
        due.begin("promise 1");
        ReplayGroup x = new ReplayGroup();
        due.is("outputs()", x.outputs(), 0);
        due.is("author(0)", x.author(0), BAD);
        due.is("output(0)", x.output(0), 0);
        for (int p = 0; p < 3; p++) {
            due.is("step", x.step(p), END);
            due.is("run", x.run(p, 100), 0);
            due.is("kept", x.kept(p), 0);
            due.is("held", x.held(p), 0);
            due.is("source", x.source(p, 1), NONE);
            for (int i = 0; i < 4; i++) {
                due.is("register", x.register(p, i), 0);
                due.is("state", x.state(p, i), 0);
            }
            for (int to = 0; to < 3; to++) {
                due.is("waiting", x.waiting(p, to), p == to ? BAD : 0);
                due.is("sent", x.sent(p, to), p == to ? BAD : 0);
                due.is("deliver", x.deliver(p, to), p == to ? BAD : NONE);
            }
        }
    }

    private static void codeRegisters() {
        due.begin("promise 2, registers");
        ReplayGroup x = new ReplayGroup();
        for (int wrong : NO_REGISTER) {
            for (int op : new int[] {SET, ADD, TIMES, LESS, RECEIVE, PUT}) {
                due.is("code with op " + op + " and a = " + wrong, x.code(0, op, wrong, 0), false);
            }
            for (int op : new int[] {ADD, TIMES, LESS, RECEIVE}) {
                due.is("code with op " + op + " and b = " + wrong, x.code(0, op, 0, wrong), false);
            }
            due.is("SEND with b = " + wrong, x.code(0, SEND, 1, wrong), false);
        }
        due.is("a program of refused instructions", x.step(0), END);
        for (int op : new int[] {SET, ADD, TIMES, LESS, RECEIVE, PUT}) {
            due.is("code with op " + op + " and register 3", x.code(0, op, 3, 3), true);
            due.is("code with op " + op + " and register 0", x.code(1, op, 0, 0), true);
        }
    }

    private static void codeOtherNumbers() {
        due.begin("promise 2, other numbers");
        ReplayGroup x = new ReplayGroup();
        for (int wrong : NO_PROCESS) {
            due.is("process " + wrong, x.code(wrong, SET, 0, 0), false);
            due.is("SEND to " + wrong, x.code(0, SEND, wrong, 0), false);
        }
        for (int wrong : new int[] {-1, 8, 9, Integer.MIN_VALUE, Integer.MAX_VALUE}) {
            due.is("op " + wrong, x.code(0, wrong, 0, 0), false);
        }
        for (int wrong : new int[] {-1, 16, Integer.MIN_VALUE, Integer.MAX_VALUE}) {
            due.is("GOTO " + wrong, x.code(0, GOTO, wrong, 0), false);
        }
        for (int p = 0; p < 3; p++) {
            for (int to = 0; to < 3; to++) {
                due.is("SEND from " + p + " to " + to, x.code(p, SEND, to, 3), p != to);
            }
        }
        due.is("GOTO 0", x.code(0, GOTO, 0, 0), true);
        due.is("GOTO 15", x.code(0, GOTO, 15, 0), true);
        // b of SET is any int; b of GOTO and PUT is not looked at.
        for (int b : new int[] {Integer.MIN_VALUE, -1, 4, Integer.MAX_VALUE}) {
            due.is("SET with b = " + b, x.code(0, SET, 0, b), true);
            due.is("GOTO with b = " + b, x.code(1, GOTO, 0, b), true);
            due.is("PUT with b = " + b, x.code(2, PUT, 0, b), true);
        }
    }

    private static void codeLimits() {
        due.begin("promise 2, limits");
        ReplayGroup x = new ReplayGroup();
        for (int i = 0; i < 16; i++) {
            due.is("instruction " + i, x.code(0, SET, 0, i), true);
        }
        due.is("a 17th instruction", x.code(0, SET, 0, 16), false);
        due.is("of another process", x.code(1, SET, 0, 16), true);
        due.is("run", x.run(0, 100), 16);
        due.is("register", x.register(0, 0), 15);
        due.is("step", x.step(0), END);
    }

    private static void codeAfterDoing() {
        due.begin("promise 2, after doing");
        ReplayGroup x = coded(0, RECEIVE, 0, 1);
        due.is("step that waits", x.step(0), WAITS);
        due.is("code after waiting", x.code(0, SET, 0, 5), true);
        due.is("step at an end", x.step(1), END);
        due.is("code after an end", x.code(1, SET, 0, 5), true);
        due.is("crash(1)", x.crash(1), true);
        due.is("code of one that is down", x.code(1, SET, 1, 6), true);
        due.is("recover(1)", x.recover(1), 0);
        due.is("run(1, 9)", x.run(1, 9), 2);
        due.is("code after two", x.code(1, SET, 0, 5), false);
        due.is("crash(1)", x.crash(1), true);
        due.is("code while down", x.code(1, SET, 0, 5), false);
        due.is("recover(1)", x.recover(1), 0);
        due.is("state(1, 1)", x.state(1, 1), 0);
        due.is("code at age 0 again", x.code(1, SET, 0, 5), false);
        due.is("code of the one that did none", x.code(0, SET, 0, 5), true);
    }

    private static void inputNumbers() {
        due.begin("promise 3");
        ReplayGroup x = coded(0, RECEIVE, 0, 1, 0, GOTO, 0, 0);
        due.is("input", x.input(0, Integer.MIN_VALUE), 1);
        due.is("input", x.input(0, Integer.MAX_VALUE), 2);
        due.is("input of another", x.input(1, 5), 1);
        due.is("step", x.step(0), DID);
        due.is("register(0, 0)", x.register(0, 0), Integer.MIN_VALUE);
        due.is("register(0, 1)", x.register(0, 1), 3);
        due.is("run", x.run(0, 2), 2);
        due.is("register(0, 0)", x.register(0, 0), Integer.MAX_VALUE);
        for (int number = 3; number <= 20; number++) {
            due.is("input", x.input(0, number), number);
        }
        due.is("input into a full log", x.input(0, 1), FULL);
        due.is("checkpoint", x.checkpoint(0), 2);
        due.is("input", x.input(0, 1), 21);
        due.is("input", x.input(0, 1), 22);
        due.is("input into a full log", x.input(0, 1), FULL);
        due.is("kept", x.kept(0), 20);
    }

    private static void inputRefused() {
        due.begin("promise 3, refused");
        ReplayGroup x = new ReplayGroup();
        for (int wrong : NO_PROCESS) {
            due.is("input(" + wrong + ", 1)", x.input(wrong, 1), BAD);
        }
        for (int i = 0; i < 20; i++) {
            x.input(2, i);
        }
        due.is("crash(2)", x.crash(2), true);
        due.is("input, down and full", x.input(2, 1), DOWN);
        due.is("kept(2)", x.kept(2), 20);
        due.is("recover(2)", x.recover(2), 20);
        due.is("input, full", x.input(2, 1), FULL);
    }

    private static void deliverOrder() {
        due.begin("promise 4");
        ReplayGroup x = coded(
            0, SET, 0, 10, 0, SEND, 1, 0, 0, SET, 0, 20, 0, SEND, 1, 0, 0, SEND, 2, 0,
            1, RECEIVE, 0, 1, 1, PUT, 0, 0, 1, PUT, 1, 0, 1, GOTO, 0, 0,
            2, SET, 0, 30, 2, SEND, 1, 0);
        due.is("run(0, 9)", x.run(0, 9), 5);
        due.is("run(2, 9)", x.run(2, 9), 2);
        due.is("crash(0)", x.crash(0), true);
        due.is("deliver from one that is down", x.deliver(0, 1), 1);
        due.is("deliver(2, 1)", x.deliver(2, 1), 2);
        due.is("input(1, 40)", x.input(1, 40), 3);
        due.is("deliver(0, 1)", x.deliver(0, 1), 4);
        due.is("deliver(0, 1)", x.deliver(0, 1), NONE);
        due.is("deliver(0, 2)", x.deliver(0, 2), 1);
        due.is("run(1, 100)", x.run(1, 100), 16);
        int[] values = {10, 0, 30, 2, 40, 3, 20, 0};
        for (int i = 0; i < values.length; i++) {
            due.is("output(" + i + ")", x.output(i), values[i]);
        }
    }

    private static void deliverRefused() {
        due.begin("promise 4, refused");
        ReplayGroup x = coded(0, SEND, 1, 0, 1, RECEIVE, 0, 1);
        for (int wrong : NO_PROCESS) {
            due.is("deliver from " + wrong, x.deliver(wrong, 1), BAD);
            due.is("deliver to " + wrong, x.deliver(1, wrong), BAD);
        }
        due.is("deliver(1, 1)", x.deliver(1, 1), BAD);
        for (int i = 0; i < 20; i++) {
            x.input(1, i);
        }
        due.is("deliver, none and full", x.deliver(0, 1), NONE);
        due.is("step(0)", x.step(0), DID);
        due.is("deliver, full", x.deliver(0, 1), FULL);
        due.is("crash(1)", x.crash(1), true);
        due.is("deliver, down and full", x.deliver(0, 1), DOWN);
        due.is("deliver, down and none", x.deliver(2, 1), DOWN);
        due.is("deliver(1, 1), down", x.deliver(1, 1), BAD);
        due.is("waiting(0, 1)", x.waiting(0, 1), 1);
        due.is("recover(1)", x.recover(1), 20);
        due.is("step(1)", x.step(1), DID);
        due.is("checkpoint(1)", x.checkpoint(1), 1);
        due.is("deliver", x.deliver(0, 1), 21);
        due.is("waiting(0, 1)", x.waiting(0, 1), 0);
    }

    private static void stepAnswers() {
        due.begin("promise 5");
        ReplayGroup x = coded(0, SET, 1, 5);
        for (int wrong : NO_PROCESS) {
            due.is("step(" + wrong + ")", x.step(wrong), BAD);
        }
        due.is("step(0)", x.step(0), DID);
        due.is("step(0)", x.step(0), END);
        due.is("step(0)", x.step(0), END);
        due.is("state(0, 0)", x.state(0, 0), 1);
        due.is("state(0, 1)", x.state(0, 1), 1);
        due.is("crash(0)", x.crash(0), true);
        due.is("step(0)", x.step(0), DOWN);
    }

    private static void stepArithmetic() {
        due.begin("promise 5, SET, ADD, TIMES");
        ReplayGroup x = coded(
            0, SET, 0, Integer.MAX_VALUE, 0, SET, 1, 3, 0, ADD, 0, 1, 0, TIMES, 1, 1, 0, TIMES, 0, 1,
            0, ADD, 1, 1, 0, SET, 3, -7, 0, ADD, 3, 1, 0, ADD, 2, 3);
        due.is("run(0, 3)", x.run(0, 3), 3);
        due.is("a sum that wraps", x.register(0, 0), Integer.MIN_VALUE + 2);
        due.is("the other summand", x.register(0, 1), 3);
        due.is("step(0)", x.step(0), DID);
        due.is("a square", x.register(0, 1), 9);
        due.is("step(0)", x.step(0), DID);
        due.is("a product that wraps", x.register(0, 0), (Integer.MIN_VALUE + 2) * 9);
        due.is("run(0, 9)", x.run(0, 9), 4);
        due.is("a double", x.register(0, 1), 18);
        due.is("below zero and up", x.register(0, 3), 11);
        due.is("added to 0", x.register(0, 2), 11);
    }

    private static void stepLess() {
        due.begin("promise 5, LESS");
        ReplayGroup x = coded(0, RECEIVE, 0, 2, 0, RECEIVE, 1, 2, 0, LESS, 0, 1, 0, GOTO, 0, 0, 0, PUT, 0, 0, 0, GOTO, 0, 0);
        int[][] pairs = {{1, 2}, {2, 2}, {3, 2}, {Integer.MIN_VALUE, Integer.MAX_VALUE}, {Integer.MAX_VALUE, Integer.MIN_VALUE}, {-1, 0}};
        for (int[] pair : pairs) {
            x.input(0, pair[0]);
            x.input(0, pair[1]);
            due.is("run(0, 3)", x.run(0, 3), 3);
            due.is("place after LESS of " + pair[0] + " and " + pair[1], x.state(0, 0), pair[0] < pair[1] ? 4 : 3);
            due.is("run(0, 9)", x.run(0, 9), pair[0] < pair[1] ? 2 : 1);
        }
        due.is("outputs()", x.outputs(), 3);
        ReplayGroup y = coded(1, SET, 1, 1, 1, LESS, 0, 1);
        due.is("run(1, 9)", y.run(1, 9), 2);
        due.is("a place behind the end", y.state(1, 0), 3);
        due.is("step(1)", y.step(1), END);
        ReplayGroup z = coded(1, SET, 1, 1, 1, LESS, 1, 1);
        due.is("run(1, 9)", z.run(1, 9), 2);
        due.is("a register is not less than itself", z.state(1, 0), 2);
    }

    private static void stepGoto() {
        due.begin("promise 5, GOTO");
        ReplayGroup x = coded(0, GOTO, 2, 0, 0, SET, 0, 1, 0, GOTO, 15, 0);
        due.is("step(0)", x.step(0), DID);
        due.is("state(0, 0)", x.state(0, 0), 2);
        due.is("step(0)", x.step(0), DID);
        due.is("state(0, 0)", x.state(0, 0), 15);
        due.is("step(0)", x.step(0), END);
        due.is("state(0, 1)", x.state(0, 1), 2);
        due.is("register(0, 0)", x.register(0, 0), 0);
        ReplayGroup y = coded(0, GOTO, 0, 0);
        due.is("run(0, 100)", y.run(0, 100), 100);
        due.is("state(0, 0)", y.state(0, 0), 0);
        due.is("state(0, 1)", y.state(0, 1), 100);
    }

    private static void stepSend() {
        due.begin("promise 5, SEND");
        ReplayGroup x = coded(0, SEND, 2, 1, 0, SET, 1, 4, 0, GOTO, 0, 0, 2, RECEIVE, 0, 1, 2, PUT, 0, 0, 2, GOTO, 0, 0);
        due.is("run(0, 100)", x.run(0, 100), 24);
        due.is("waiting(0, 2)", x.waiting(0, 2), 8);
        due.is("waiting(0, 1)", x.waiting(0, 1), 0);
        due.is("step(0)", x.step(0), WAITS);
        due.is("sent(0, 2)", x.sent(0, 2), 8);
        due.is("state(0, 1)", x.state(0, 1), 24);
        due.is("state(0, 0)", x.state(0, 0), 0);
        due.is("crash(2)", x.crash(2), true);
        due.is("recover(2)", x.recover(2), 0);
        due.is("deliver(0, 2)", x.deliver(0, 2), 1);
        due.is("crash(2)", x.crash(2), true);
        due.is("sending to one that is down", x.step(0), DID);
        due.is("sent(0, 2)", x.sent(0, 2), 9);
        due.is("run(0, 100)", x.run(0, 100), 2);
        due.is("recover(2)", x.recover(2), 1);
        for (int number = 2; number <= 9; number++) {
            due.is("deliver(0, 2)", x.deliver(0, 2), number);
        }
        due.is("deliver(0, 2)", x.deliver(0, 2), NONE);
        due.is("run(2, 100)", x.run(2, 100), 27);
        due.is("output(0)", x.output(0), 0);
        due.is("output(1)", x.output(1), 4);
        due.is("output(8)", x.output(8), 4);
        due.is("held(0)", x.held(0), 0);
    }

    private static void stepReceive() {
        due.begin("promise 5, RECEIVE");
        ReplayGroup x = coded(1, RECEIVE, 2, 3, 1, RECEIVE, 2, 2, 1, RECEIVE, 0, 2);
        due.is("step(1)", x.step(1), WAITS);
        due.is("state(1, 1)", x.state(1, 1), 0);
        due.is("state(1, 2)", x.state(1, 2), 0);
        x.input(1, 50);
        due.is("step(1)", x.step(1), DID);
        due.is("register(1, 2)", x.register(1, 2), 50);
        due.is("register(1, 3)", x.register(1, 3), 3);
        due.is("step(1)", x.step(1), WAITS);
        x.input(1, 60);
        due.is("step(1)", x.step(1), DID);
        due.is("the value counts when a is b", x.register(1, 2), 60);
        due.is("state(1, 2)", x.state(1, 2), 2);
        x.input(1, 70);
        due.is("step(1)", x.step(1), DID);
        due.is("register(1, 0)", x.register(1, 0), 70);
        due.is("register(1, 2)", x.register(1, 2), 3);
        due.is("what was taken is kept until a checkpoint", x.kept(1), 3);
    }

    private static void stepPut() {
        due.begin("promise 5, PUT");
        ReplayGroup x = coded(0, SET, 2, 9, 0, PUT, 2, 0, 0, GOTO, 1, 0, 1, PUT, 0, 0);
        due.is("run(0, 100)", x.run(0, 100), 100);
        due.is("run(0, 19)", x.run(0, 19), 19);
        due.is("outputs()", x.outputs(), 59);
        due.is("run(0, 19)", x.run(0, 19), 2);
        due.is("step(0)", x.step(0), WAITS);
        due.is("another waits too", x.step(1), WAITS);
        due.is("state(1, 1)", x.state(1, 1), 0);
        due.is("code of one that only waited", x.code(1, SET, 0, 0), true);
        due.is("state(0, 3)", x.state(0, 3), 60);
        due.is("crash(0)", x.crash(0), true);
        due.is("recover(0)", x.recover(0), 0);
        due.is("what is held back needs no room", x.run(0, 100), 100);
        due.is("run(0, 100)", x.run(0, 100), 21);
        due.is("held(0)", x.held(0), 60);
        due.is("outputs()", x.outputs(), 60);
        due.is("step(0)", x.step(0), WAITS);
    }

    private static void runCounts() {
        due.begin("promise 6");
        ReplayGroup x = coded(0, RECEIVE, 0, 1, 0, ADD, 2, 0, 0, GOTO, 0, 0, 1, SET, 0, 1, 1, SET, 0, 2);
        due.is("run(0, 1), waits", x.run(0, 1), 0);
        x.input(0, 5);
        x.input(0, 6);
        due.is("run(0, 1)", x.run(0, 1), 1);
        due.is("run(0, 3)", x.run(0, 3), 3);
        due.is("register(0, 2)", x.register(0, 2), 5);
        due.is("run(0, 100)", x.run(0, 100), 2);
        due.is("register(0, 2)", x.register(0, 2), 11);
        due.is("run(1, 2)", x.run(1, 2), 2);
        due.is("run(1, 2), end", x.run(1, 2), 0);
        due.is("state(1, 1)", x.state(1, 1), 2);
    }

    private static void runRefused() {
        due.begin("promise 6, refused");
        ReplayGroup x = coded(0, GOTO, 0, 0);
        for (int wrong : NO_PROCESS) {
            due.is("run(" + wrong + ", 1)", x.run(wrong, 1), BAD);
        }
        for (int wrong : new int[] {0, -1, 101, Integer.MIN_VALUE, Integer.MAX_VALUE}) {
            due.is("run(0, " + wrong + ")", x.run(0, wrong), BAD);
        }
        due.is("state(0, 1)", x.state(0, 1), 0);
        due.is("crash(0)", x.crash(0), true);
        due.is("run(0, 1), down", x.run(0, 1), DOWN);
        due.is("run(0, 100), down", x.run(0, 100), DOWN);
        due.is("run(0, 0), down", x.run(0, 0), BAD);
        due.is("run(0, 101), down", x.run(0, 101), BAD);
    }

    private static void checkpointDrops() {
        due.begin("promise 7");
        ReplayGroup x = coded(0, RECEIVE, 0, 1, 0, GOTO, 0, 0);
        for (int wrong : NO_PROCESS) {
            due.is("checkpoint(" + wrong + ")", x.checkpoint(wrong), BAD);
        }
        due.is("checkpoint(0)", x.checkpoint(0), 0);
        for (int i = 0; i < 5; i++) {
            x.input(0, i);
        }
        due.is("checkpoint(0), none taken", x.checkpoint(0), 0);
        due.is("run(0, 5)", x.run(0, 5), 5);
        due.is("checkpoint(0)", x.checkpoint(0), 3);
        due.is("kept(0)", x.kept(0), 2);
        due.is("checkpoint(0) again", x.checkpoint(0), 0);
        due.is("run(0, 9)", x.run(0, 9), 5);
        due.is("crash(0)", x.crash(0), true);
        due.is("checkpoint(0), down", x.checkpoint(0), DOWN);
        due.is("kept(0)", x.kept(0), 2);
        due.is("recover(0)", x.recover(0), 2);
        due.is("run(0, 2)", x.run(0, 2), 2);
        due.is("checkpoint(0) on the way", x.checkpoint(0), 1);
        due.is("crash(0)", x.crash(0), true);
        due.is("recover(0)", x.recover(0), 1);
        due.is("state(0, 1)", x.state(0, 1), 7);
        due.is("register(0, 0)", x.register(0, 0), 3);
    }

    private static void checkpointKeepsState() {
        due.begin("promises 7 and 9, the state");
        ReplayGroup x = coded(
            0, RECEIVE, 0, 1, 0, SET, 2, 22, 0, SET, 3, 33, 0, SEND, 1, 0, 0, SEND, 2, 2, 0, SEND, 2, 3, 0, PUT, 3, 0,
            0, SET, 0, 100, 0, SET, 1, 100, 0, SET, 2, 100, 0, SET, 3, 100, 0, SEND, 1, 0, 0, SEND, 2, 0, 0, PUT, 0, 0);
        x.input(0, 11);
        due.is("run(0, 7)", x.run(0, 7), 7);
        due.is("checkpoint(0)", x.checkpoint(0), 1);
        due.is("run(0, 50)", x.run(0, 50), 7);
        due.is("register(0, 3)", x.register(0, 3), 100);
        due.is("crash(0)", x.crash(0), true);
        due.is("recover(0)", x.recover(0), 0);
        int[] registers = {11, 3, 22, 33};
        int[] states = {7, 7, 1, 1};
        for (int i = 0; i < 4; i++) {
            due.is("register(0, " + i + ")", x.register(0, i), registers[i]);
            due.is("state(0, " + i + ")", x.state(0, i), states[i]);
        }
        due.is("sent(0, 1)", x.sent(0, 1), 1);
        due.is("sent(0, 2)", x.sent(0, 2), 2);
        due.is("run(0, 50)", x.run(0, 50), 7);
        due.is("held(0)", x.held(0), 3);
        due.is("crash(0)", x.crash(0), true);
        due.is("recover(0), the checkpoint is as it was", x.recover(0), 0);
        due.is("register(0, 3)", x.register(0, 3), 33);
        due.is("sent(0, 2)", x.sent(0, 2), 2);
        due.is("waiting(0, 1)", x.waiting(0, 1), 2);
        due.is("waiting(0, 2)", x.waiting(0, 2), 3);
        due.is("outputs()", x.outputs(), 2);
    }

    private static void crashAnswers() {
        due.begin("promise 8");
        ReplayGroup x = coded(0, SET, 0, 5, 0, SEND, 1, 0, 0, PUT, 0, 0);
        for (int wrong : NO_PROCESS) {
            due.is("crash(" + wrong + ")", x.crash(wrong), false);
        }
        x.input(0, 8);
        due.is("run(0, 3)", x.run(0, 3), 3);
        due.is("crash(0)", x.crash(0), true);
        due.is("crash(0), down", x.crash(0), false);
        due.is("the channel stays", x.waiting(0, 1), 1);
        due.is("the log stays", x.kept(0), 1);
        due.is("the output stays", x.output(0), 5);
        due.is("others stay up", x.step(1), END);
        due.is("crash(1)", x.crash(1), true);
        due.is("crash(2)", x.crash(2), true);
        due.is("recover(0)", x.recover(0), 1);
        due.is("the state is lost", x.state(0, 1), 0);
        due.is("register(0, 0)", x.register(0, 0), 0);
        due.is("crash(0) again", x.crash(0), true);
    }

    private static void recoverAnswers() {
        due.begin("promise 9");
        ReplayGroup x = coded(0, RECEIVE, 0, 1, 0, GOTO, 0, 0);
        for (int wrong : NO_PROCESS) {
            due.is("recover(" + wrong + ")", x.recover(wrong), BAD);
        }
        due.is("recover(0), up", x.recover(0), NONE);
        for (int i = 0; i < 6; i++) {
            x.input(0, i);
        }
        due.is("run(0, 3)", x.run(0, 3), 3);
        due.is("recover(0), up", x.recover(0), NONE);
        due.is("state(0, 1)", x.state(0, 1), 3);
        due.is("crash(0)", x.crash(0), true);
        due.is("recover(0)", x.recover(0), 6);
        due.is("run(0, 3)", x.run(0, 3), 3);
        due.is("checkpoint(0)", x.checkpoint(0), 2);
        due.is("run(0, 4)", x.run(0, 4), 4);
        due.is("crash(0)", x.crash(0), true);
        due.is("recover(0)", x.recover(0), 4);
        due.is("state(0, 2)", x.state(0, 2), 2);
        due.is("run(0, 100)", x.run(0, 100), 9);
        due.is("register(0, 0)", x.register(0, 0), 5);
        due.is("input(0, 9)", x.input(0, 9), 7);
    }

    private static void recoverHoldsBack() {
        due.begin("promises 9 and 16, held back");
        ReplayGroup x = coded(0, RECEIVE, 0, 1, 0, SEND, 1, 0, 0, PUT, 0, 0, 0, SEND, 2, 0, 0, GOTO, 0, 0);
        for (int i = 1; i <= 3; i++) {
            x.input(0, i * 10);
        }
        due.is("run(0, 7)", x.run(0, 7), 7);
        due.is("sent to 1", x.waiting(0, 1), 2);
        due.is("sent to 2", x.waiting(0, 2), 1);
        due.is("deliver(0, 1)", x.deliver(0, 1), 1);
        due.is("crash(0)", x.crash(0), true);
        due.is("recover(0)", x.recover(0), 3);
        due.is("held(0)", x.held(0), 0);
        due.is("run(0, 7)", x.run(0, 7), 7);
        due.is("held(0)", x.held(0), 4);
        due.is("waiting(0, 1)", x.waiting(0, 1), 1);
        due.is("outputs()", x.outputs(), 1);
        due.is("the rest is new", x.run(0, 100), 8);
        due.is("held(0)", x.held(0), 4);
        due.is("outputs()", x.outputs(), 3);
        due.is("output(1)", x.output(1), 20);
        due.is("output(2)", x.output(2), 30);
        due.is("waiting(0, 1)", x.waiting(0, 1), 2);
        due.is("waiting(0, 2)", x.waiting(0, 2), 3);
        due.is("crash(0)", x.crash(0), true);
        due.is("held(0), down", x.held(0), 4);
        due.is("recover(0)", x.recover(0), 3);
        due.is("run(0, 100)", x.run(0, 100), 15);
        due.is("held(0) goes on", x.held(0), 13);
        due.is("sent(0, 1)", x.sent(0, 1), 3);
        due.is("held(1)", x.held(1), 0);
    }

    private static void registerAnswers() {
        due.begin("promise 10");
        ReplayGroup x = coded(0, SET, 0, -5, 0, SET, 3, 6, 1, SET, 1, 7);
        x.run(0, 9);
        x.run(1, 9);
        due.is("register(0, 0)", x.register(0, 0), -5);
        due.is("register(0, 1)", x.register(0, 1), 0);
        due.is("register(0, 3)", x.register(0, 3), 6);
        due.is("register(1, 1)", x.register(1, 1), 7);
        for (int wrong : NO_PROCESS) {
            due.is("register(" + wrong + ", 0)", x.register(wrong, 0), 0);
        }
        for (int wrong : NO_REGISTER) {
            due.is("register(0, " + wrong + ")", x.register(0, wrong), 0);
        }
        x.crash(0);
        due.is("register(0, 0), down", x.register(0, 0), 0);
        due.is("register(0, 3), down", x.register(0, 3), 0);
    }

    private static void stateAnswers() {
        due.begin("promise 11");
        ReplayGroup x = coded(0, RECEIVE, 0, 1, 0, PUT, 0, 0, 0, PUT, 0, 0, 0, PUT, 0, 0, 0, RECEIVE, 0, 1, 0, GOTO, 10, 0);
        x.input(0, 1);
        x.input(0, 2);
        due.is("run(0, 9)", x.run(0, 9), 6);
        due.is("the place", x.state(0, 0), 10);
        due.is("the age", x.state(0, 1), 6);
        due.is("took", x.state(0, 2), 2);
        due.is("put out", x.state(0, 3), 3);
        for (int wrong : NO_PROCESS) {
            due.is("state(" + wrong + ", 0)", x.state(wrong, 0), BAD);
        }
        x.crash(0);
        for (int what = 0; what < 4; what++) {
            due.is("state(0, " + what + "), down", x.state(0, what), DOWN);
            due.is("state(1, " + what + ")", x.state(1, what), 0);
        }
        for (int wrong : NO_REGISTER) {
            due.is("state(0, " + wrong + "), down", x.state(0, wrong), BAD);
            due.is("state(1, " + wrong + ")", x.state(1, wrong), BAD);
        }
    }

    private static void sentAnswers() {
        due.begin("promise 12");
        ReplayGroup x = coded(1, SEND, 0, 0, 1, SEND, 2, 0, 1, SEND, 2, 0);
        due.is("run(1, 9)", x.run(1, 9), 3);
        due.is("sent(1, 0)", x.sent(1, 0), 1);
        due.is("sent(1, 2)", x.sent(1, 2), 2);
        due.is("sent(1, 1)", x.sent(1, 1), BAD);
        for (int wrong : NO_PROCESS) {
            due.is("sent(" + wrong + ", 1)", x.sent(wrong, 1), BAD);
            due.is("sent(1, " + wrong + ")", x.sent(1, wrong), BAD);
        }
        x.deliver(1, 2);
        due.is("sent(1, 2), one delivered", x.sent(1, 2), 2);
        x.crash(2);
        due.is("sent(1, 2), the other is down", x.sent(1, 2), 2);
        x.crash(1);
        due.is("sent(1, 2), down", x.sent(1, 2), DOWN);
        due.is("sent(1, 1), down", x.sent(1, 1), BAD);
        due.is("sent(0, 1), the other is down", x.sent(0, 1), 0);
        x.recover(1);
        due.is("sent(1, 2), the first state", x.sent(1, 2), 0);
    }

    private static void keptAnswers() {
        due.begin("promise 13");
        ReplayGroup x = coded(2, RECEIVE, 0, 0);
        for (int wrong : NO_PROCESS) {
            due.is("kept(" + wrong + ")", x.kept(wrong), BAD);
        }
        x.input(2, 1);
        x.input(2, 2);
        due.is("kept(2)", x.kept(2), 2);
        x.step(2);
        due.is("kept(2), one taken", x.kept(2), 2);
        x.crash(2);
        due.is("kept(2), down", x.kept(2), 2);
        x.recover(2);
        x.step(2);
        x.checkpoint(2);
        due.is("kept(2), a checkpoint", x.kept(2), 1);
        due.is("kept(0)", x.kept(0), 0);
    }

    private static void sourceAnswers() {
        due.begin("promise 14");
        ReplayGroup x = coded(0, SEND, 2, 0, 1, SEND, 2, 0, 2, RECEIVE, 0, 0, 2, SEND, 0, 0);
        x.step(0);
        x.step(1);
        due.is("deliver(1, 2)", x.deliver(1, 2), 1);
        due.is("deliver(0, 2)", x.deliver(0, 2), 2);
        due.is("input(2, 0)", x.input(2, 0), 3);
        due.is("run(2, 2)", x.run(2, 2), 2);
        due.is("deliver(2, 0)", x.deliver(2, 0), 1);
        due.is("source(0, 1)", x.source(0, 1), 2);
        x.crash(2);
        due.is("source(2, 1)", x.source(2, 1), 1);
        due.is("source(2, 2)", x.source(2, 2), 0);
        due.is("source(2, 3)", x.source(2, 3), 3);
        for (int wrong : new int[] {0, -1, 4, 21, Integer.MIN_VALUE, Integer.MAX_VALUE}) {
            due.is("source(2, " + wrong + ")", x.source(2, wrong), NONE);
        }
        for (int wrong : NO_PROCESS) {
            due.is("source(" + wrong + ", 1)", x.source(wrong, 1), BAD);
        }
        x.recover(2);
        x.step(2);
        due.is("checkpoint(2)", x.checkpoint(2), 1);
        due.is("source(2, 1), gone", x.source(2, 1), NONE);
        due.is("source(2, 2)", x.source(2, 2), 0);
        due.is("source(0, 2)", x.source(0, 2), NONE);
    }

    private static void waitingAnswers() {
        due.begin("promise 15");
        ReplayGroup x = coded(0, SEND, 1, 0, 0, SEND, 1, 0, 0, SEND, 2, 0);
        x.run(0, 9);
        due.is("waiting(0, 1)", x.waiting(0, 1), 2);
        due.is("waiting(0, 2)", x.waiting(0, 2), 1);
        due.is("waiting(1, 0)", x.waiting(1, 0), 0);
        due.is("waiting(0, 0)", x.waiting(0, 0), BAD);
        for (int wrong : NO_PROCESS) {
            due.is("waiting(" + wrong + ", 1)", x.waiting(wrong, 1), BAD);
            due.is("waiting(1, " + wrong + ")", x.waiting(1, wrong), BAD);
        }
        x.crash(0);
        x.deliver(0, 1);
        x.crash(1);
        due.is("waiting(0, 1), both down", x.waiting(0, 1), 1);
    }

    private static void heldAnswers() {
        due.begin("promise 16");
        ReplayGroup x = coded(0, SEND, 1, 0, 0, PUT, 0, 0, 1, PUT, 0, 0);
        for (int wrong : NO_PROCESS) {
            due.is("held(" + wrong + ")", x.held(wrong), BAD);
        }
        x.run(0, 9);
        x.run(1, 9);
        due.is("held(0)", x.held(0), 0);
        x.crash(0);
        x.recover(0);
        x.step(0);
        due.is("held(0), a sending", x.held(0), 1);
        x.step(0);
        due.is("held(0), an output", x.held(0), 2);
        due.is("held(1)", x.held(1), 0);
        x.crash(0);
        due.is("held(0), down", x.held(0), 2);
    }

    private static void outputsAnswers() {
        due.begin("promises 17, 18 and 19");
        ReplayGroup x = coded(0, SET, 0, -9, 0, PUT, 0, 0, 1, SET, 2, 8, 1, PUT, 2, 0, 1, PUT, 3, 0, 2, SET, 1, 7, 2, PUT, 1, 0);
        x.run(2, 9);
        x.run(1, 2);
        x.run(0, 9);
        x.run(1, 9);
        x.crash(1);
        int[] authors = {2, 1, 0, 1};
        int[] values = {7, 8, -9, 0};
        due.is("outputs()", x.outputs(), 4);
        for (int i = 0; i < 4; i++) {
            due.is("author(" + i + ")", x.author(i), authors[i]);
            due.is("output(" + i + ")", x.output(i), values[i]);
        }
        for (int wrong : new int[] {-1, -2, 4, 60, 61, Integer.MIN_VALUE, Integer.MAX_VALUE}) {
            due.is("author(" + wrong + ")", x.author(wrong), BAD);
            due.is("output(" + wrong + ")", x.output(wrong), 0);
        }
    }

    private static void objectsAreApart() {
        due.begin("two objects");
        ReplayGroup x = coded(0, SET, 0, 5, 0, PUT, 0, 0, 0, SEND, 1, 0);
        ReplayGroup y = new ReplayGroup();
        x.run(0, 9);
        x.input(1, 1);
        x.crash(2);
        due.is("step(0)", y.step(0), END);
        due.is("step(2)", y.step(2), END);
        due.is("outputs()", y.outputs(), 0);
        due.is("waiting(0, 1)", y.waiting(0, 1), 0);
        due.is("kept(1)", y.kept(1), 0);
    }
}
