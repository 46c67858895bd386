/**
 * Groups brought to points from which tests go on. Each call makes a new group, always the same one,
 * so that a test may have it twice and treat one of the two in another way.
 */
final class Scenes {
    static final int BAD = -1, DOWN = -2, NONE = -3, FULL = -4;
    static final int WAITS = 0, DID = 1, END = 2;
    static final int SET = 0, ADD = 1, TIMES = 2, LESS = 3, GOTO = 4, SEND = 5, RECEIVE = 6, PUT = 7;
    static final int LOWEST = Integer.MIN_VALUE, HIGHEST = Integer.MAX_VALUE;
    static final int[] NO_PROCESS = {-1, 3, 4, LOWEST, HIGHEST};
    static final int[] NO_REGISTER = {-1, 4, 5, LOWEST, HIGHEST};

    private Scenes() { }

    /** Instructions of one process, three numbers each: op, a, b. */
    static void write(ReplayGroup x, int process, int... rows) {
        for (int i = 0; i < rows.length; i += 3) {
            x.code(process, rows[i], rows[i + 1], rows[i + 2]);
        }
    }

    /** A new group in which one process alone has instructions. */
    static ReplayGroup written(int process, int... rows) {
        ReplayGroup x = new ReplayGroup();
        write(x, process, rows);
        return x;
    }

    /**
     * All have a loop that mixes each message and where it came from into register 2, in their order,
     * and sends and puts out the mixture: a change of any message shows sooner or later.
     */
    static ReplayGroup allWritten() {
        ReplayGroup x = new ReplayGroup();
        for (int p = 0; p < 3; p++) {
            write(x, p, SET, 3, 31, RECEIVE, 0, 1, TIMES, 2, 3, ADD, 2, 0, TIMES, 2, 3, ADD, 2, 1,
                SEND, (p + 1) % 3, 2, PUT, 2, 0, SEND, (p + 2) % 3, 2, GOTO, 1, 0);
        }
        return x;
    }

    /** Messages are in all logs and channels, outputs of all are there, and none is at its checkpoint. */
    static ReplayGroup atWork() {
        ReplayGroup x = allWritten();
        for (int i = 1; i <= 3; i++) {
            for (int p = 0; p < 3; p++) {
                x.input(p, 10 * i + p);
            }
        }
        for (int p = 0; p < 3; p++) {
            x.run(p, 17);
            x.deliver(p, (p + 1) % 3);
            x.checkpoint(p);
            x.run(p, 9);
        }
        x.input(1, 50);
        x.run(2, 5);
        return x;
    }

    static ReplayGroup oneDown() {
        ReplayGroup x = atWork();
        x.crash(1);
        return x;
    }

    static ReplayGroup allDown() {
        ReplayGroup x = atWork();
        for (int p = 0; p < 3; p++) {
            x.crash(p);
        }
        return x;
    }

    /** Process 1 is back and has some way to go to where it was. */
    static ReplayGroup comingBack() {
        ReplayGroup x = oneDown();
        x.recover(1);
        x.run(1, 6);
        return x;
    }

    /** Process 1 did instructions, and is back at age 0. */
    static ReplayGroup backAtTheBeginning() {
        ReplayGroup x = allWritten();
        x.input(1, 5);
        x.run(1, 100);
        x.crash(1);
        x.recover(1);
        return x;
    }

    /**
     * Each log keeps 20, one of which was taken, and each channel holds two messages. All mix what they
     * take into register 2 and need no room for that, so that they can take all of it.
     */
    static ReplayGroup fullLogs() {
        ReplayGroup x = new ReplayGroup();
        for (int p = 0; p < 3; p++) {
            write(x, p, SET, 3, 31, SEND, (p + 1) % 3, 3, SEND, (p + 2) % 3, 3, SEND, (p + 1) % 3, 0, SEND, (p + 2) % 3, 0,
                RECEIVE, 0, 1, TIMES, 2, 3, ADD, 2, 0, TIMES, 2, 3, ADD, 2, 1, GOTO, 5, 0);
            x.input(p, 3);
            x.input(p, 4);
            x.run(p, 5 + 6 * 2);
            x.checkpoint(p);
            for (int i = 0; i < 20; i++) {
                x.input(p, 5 + i);
            }
            x.run(p, 3);
        }
        return x;
    }

    static ReplayGroup fullLogsEmptyChannels() {
        ReplayGroup x = allWritten();
        for (int p = 0; p < 3; p++) {
            for (int i = 1; i <= 20; i++) {
                x.input(p, i);
            }
        }
        return x;
    }

    static ReplayGroup fullLogOfOneDown() {
        ReplayGroup x = fullLogs();
        x.crash(1);
        return x;
    }

    /**
     * Each channel holds 8, and all are to send a 9th message next. Behind the sending loop stands one
     * that mixes all messages into register 1.
     */
    static ReplayGroup fullChannels() {
        ReplayGroup x = new ReplayGroup();
        for (int p = 0; p < 3; p++) {
            write(x, p, SET, 0, 7 + p, SET, 1, 9 * 31, SET, 2, 31,
                SEND, (p + 1) % 3, 0, SEND, (p + 2) % 3, 0, ADD, 0, 0, ADD, 3, 2, LESS, 3, 1, GOTO, 10, 0, GOTO, 3, 0,
                RECEIVE, 0, 3, TIMES, 1, 2, ADD, 1, 0, TIMES, 1, 2, ADD, 1, 3, GOTO, 10, 0);
            x.run(p, 3 + 6 * 8);
        }
        return x;
    }

    /** There are 60 outputs, 25 of process 0 and 35 of process 1, and both are to put out one more next. */
    static ReplayGroup fullOutputs() {
        ReplayGroup x = new ReplayGroup();
        for (int p = 0; p < 3; p++) {
            write(x, p, SET, 0, 2 + p, SET, 1, 3, PUT, 0, 0, TIMES, 0, 1, GOTO, 2, 0);
        }
        x.run(0, 2 + 3 * 25);
        x.run(1, 100);
        x.run(1, 2 + 3 * 35 - 100);
        return x;
    }

    /** All have 16 instructions and did none of them. */
    static ReplayGroup fullPrograms() {
        ReplayGroup x = new ReplayGroup();
        for (int p = 0; p < 3; p++) {
            for (int i = 0; i < 15; i++) {
                x.code(p, SET, i % 4, 100 * p + i);
            }
            x.code(p, GOTO, 0, 0);
        }
        return x;
    }

    /** Process 0 is right behind its last instruction, 1 further behind, and 2 has none. */
    static ReplayGroup ended() {
        ReplayGroup x = written(0, SET, 0, 5, PUT, 0, 0);
        write(x, 1, SET, 1, 6, GOTO, 15, 0);
        x.run(0, 2);
        x.run(1, 2);
        return x;
    }

    /** There is no message for the first instruction of process 0, nor for the fifth of process 1. */
    static ReplayGroup waitingForMessages() {
        ReplayGroup x = written(0, RECEIVE, 0, 1, PUT, 0, 0);
        write(x, 1, SET, 1, 5, SET, 2, 6, SET, 3, 7, RECEIVE, 0, 1, RECEIVE, 2, 3, PUT, 2, 0);
        x.input(1, 9);
        x.run(1, 4);
        return x;
    }

    /** Process 0 sends 1, 2, .. to process 1 in a loop of three, which puts them out. */
    static ReplayGroup counting() {
        ReplayGroup x = written(0, SET, 0, 1, SET, 1, 1, SEND, 1, 0, ADD, 0, 1, GOTO, 2, 0);
        write(x, 1, RECEIVE, 0, 1, PUT, 0, 0, GOTO, 0, 0);
        return x;
    }

    /** The channel from 0 to 1 is full; process 0 is back before its loop that sent all of it. */
    static ReplayGroup countingAgain() {
        ReplayGroup x = counting();
        x.run(0, 100);
        x.crash(0);
        x.recover(0);
        x.run(0, 2);
        return x;
    }
}
