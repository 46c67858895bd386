/**
 * Three processes that run small programs and send one another messages. What a process receives
 * is logged, so that one that crashed can take the same messages again from its checkpoint on,
 * while what it sends and puts out a second time is held back.
 */
public final class ReplayGroup {
    public static final int BAD = -1;
    public static final int DOWN = -2;
    public static final int NONE = -3;
    public static final int FULL = -4;
    public static final int WAITS = 0, DID = 1, END = 2;

    private static final int PROCESSES = 3;
    private static final int OUTSIDE = 3;
    private static final int REGISTERS = 4;
    private static final int PROGRAM_LIMIT = 16;
    private static final int CHANNEL_LIMIT = 8;
    private static final int LOG_LIMIT = 20;
    private static final int OUTPUT_LIMIT = 60;
    private static final int RUN_LIMIT = 100;

    private static final int SET = 0;
    private static final int ADD = 1;
    private static final int TIMES = 2;
    private static final int LESS = 3;
    private static final int GOTO = 4;
    private static final int SEND = 5;
    private static final int RECEIVE = 6;
    private static final int PUT = 7;

    private final Member[] members;
    private final NumberedRow[] channels;
    private final NumberedRow shown;

    public ReplayGroup() {
        members = new Member[PROCESSES];
        for (int p = 0; p < PROCESSES; p++) {
            members[p] = new Member();
        }
        // A process has no channel to itself; its row is made all the same, so that none is null.
        channels = new NumberedRow[PROCESSES * PROCESSES];
        for (int c = 0; c < channels.length; c++) {
            channels[c] = new NumberedRow(CHANNEL_LIMIT);
        }
        shown = new NumberedRow(OUTPUT_LIMIT);
    }

    public boolean code(int process, int op, int a, int b) {
        if (!isProcess(process) || !isInstruction(process, op, a, b)) {
            return false;
        }
        Member member = members[process];
        if (member.began || member.program.isFull()) {
            return false;
        }
        member.program.append(op, a, b);
        return true;
    }

    public int input(int process, int value) {
        if (!isProcess(process)) {
            return BAD;
        }
        Member member = members[process];
        if (!member.up) {
            return DOWN;
        }
        if (member.log.isFull()) {
            return FULL;
        }
        return member.log.append(value, OUTSIDE);
    }

    public int deliver(int from, int to) {
        if (!isChannel(from, to)) {
            return BAD;
        }
        Member receiver = members[to];
        NumberedRow channel = channelBetween(from, to);
        if (!receiver.up) {
            return DOWN;
        }
        if (channel.count() == 0) {
            return NONE;
        }
        if (receiver.log.isFull()) {
            return FULL;
        }
        int first = channel.gone + 1;
        int value = channel.valueAt(first);
        channel.dropThrough(first);
        return receiver.log.append(value, from);
    }

    public int step(int process) {
        if (!isProcess(process)) {
            return BAD;
        }
        if (!members[process].up) {
            return DOWN;
        }
        return doNext(process);
    }

    public int run(int process, int n) {
        if (!isProcess(process) || n < 1 || n > RUN_LIMIT) {
            return BAD;
        }
        if (!members[process].up) {
            return DOWN;
        }
        for (int done = 0; done < n; done++) {
            if (doNext(process) != DID) {
                return done;
            }
        }
        return n;
    }

    public int checkpoint(int process) {
        if (!isProcess(process)) {
            return BAD;
        }
        Member member = members[process];
        if (!member.up) {
            return DOWN;
        }
        member.saved.copyFrom(member.current);
        return member.log.dropThrough(member.saved.took);
    }

    public boolean crash(int process) {
        if (!isProcess(process) || !members[process].up) {
            return false;
        }
        // The lost state is left lying: nothing reads it before recover() writes over it.
        members[process].up = false;
        return true;
    }

    public int recover(int process) {
        if (!isProcess(process)) {
            return BAD;
        }
        Member member = members[process];
        if (member.up) {
            return NONE;
        }
        member.current.copyFrom(member.saved);
        member.up = true;
        return member.log.last - member.current.took;
    }

    public int register(int process, int r) {
        if (!isProcess(process) || !isRegister(r) || !members[process].up) {
            return 0;
        }
        return members[process].current.registers[r];
    }

    public int state(int process, int what) {
        if (!isProcess(process) || what < 0 || what > 3) {
            return BAD;
        }
        if (!members[process].up) {
            return DOWN;
        }
        State current = members[process].current;
        switch (what) {
            case 0:
                return current.place;
            case 1:
                return current.age;
            case 2:
                return current.took;
            default:
                return current.putOut;
        }
    }

    public int sent(int process, int to) {
        if (!isChannel(process, to)) {
            return BAD;
        }
        if (!members[process].up) {
            return DOWN;
        }
        return members[process].current.sentTo[to];
    }

    public int kept(int process) {
        if (!isProcess(process)) {
            return BAD;
        }
        return members[process].log.count();
    }

    public int source(int process, int number) {
        if (!isProcess(process)) {
            return BAD;
        }
        NumberedRow log = members[process].log;
        if (!log.has(number)) {
            return NONE;
        }
        return log.originAt(number);
    }

    public int waiting(int from, int to) {
        if (!isChannel(from, to)) {
            return BAD;
        }
        return channelBetween(from, to).count();
    }

    public int held(int process) {
        if (!isProcess(process)) {
            return BAD;
        }
        return members[process].heldBack;
    }

    public int outputs() {
        return shown.count();
    }

    public int author(int i) {
        int number = outputNumber(i);
        if (!shown.has(number)) {
            return BAD;
        }
        return shown.originAt(number);
    }

    public int output(int i) {
        int number = outputNumber(i);
        if (!shown.has(number)) {
            return 0;
        }
        return shown.valueAt(number);
    }

    private static boolean isProcess(int p) {
        return p >= 0 && p < PROCESSES;
    }

    private static boolean isRegister(int r) {
        return r >= 0 && r < REGISTERS;
    }

    private static boolean isChannel(int from, int to) {
        return isProcess(from) && isProcess(to) && from != to;
    }

    private static boolean isInstruction(int process, int op, int a, int b) {
        switch (op) {
            case SET:
            case PUT:
                return isRegister(a);
            case ADD:
            case TIMES:
            case LESS:
            case RECEIVE:
                return isRegister(a) && isRegister(b);
            case GOTO:
                return a >= 0 && a < PROGRAM_LIMIT;
            case SEND:
                return isChannel(process, a) && isRegister(b);
            default:
                return false;
        }
    }

    /** Outputs are numbered from 0, the row that holds them from 1; the last int wraps to below 0. */
    private static int outputNumber(int i) {
        return i + 1;
    }

    private NumberedRow channelBetween(int from, int to) {
        return channels[from * PROCESSES + to];
    }

    private int doNext(int process) {
        Member member = members[process];
        State current = member.current;
        int place = current.place;
        if (!member.program.has(place)) {
            return END;
        }
        int op = member.program.ops[place];
        int a = member.program.firsts[place];
        int b = member.program.seconds[place];
        int next = placeAfter(current, op, a, b);
        if (!perform(process, op, a, b)) {
            return WAITS;
        }
        current.place = next;
        current.age++;
        member.began = true;
        return DID;
    }

    private static int placeAfter(State current, int op, int a, int b) {
        if (op == GOTO) {
            return a;
        }
        if (op == LESS && current.registers[a] < current.registers[b]) {
            return current.place + 2;
        }
        return current.place + 1;
    }

    /** Does all of an instruction but place and age; false when the process waits. */
    private boolean perform(int process, int op, int a, int b) {
        int[] registers = members[process].current.registers;
        switch (op) {
            case SET:
                registers[a] = b;
                return true;
            case ADD:
                registers[a] += registers[b];
                return true;
            case TIMES:
                registers[a] *= registers[b];
                return true;
            case SEND:
                return trySend(process, a, registers[b]);
            case RECEIVE:
                return tryReceive(process, a, b);
            case PUT:
                return tryPut(process, registers[a]);
            default:
                // LESS and GOTO change the place alone.
                return true;
        }
    }

    private boolean trySend(int from, int to, int value) {
        Member sender = members[from];
        NumberedRow channel = channelBetween(from, to);
        // A channel counts on when its messages leave, so its last number is all that was ever sent.
        if (sender.current.sentTo[to] < channel.last) {
            sender.heldBack++;
        } else if (channel.isFull()) {
            return false;
        } else {
            channel.append(value, from);
        }
        sender.current.sentTo[to]++;
        return true;
    }

    private boolean tryReceive(int process, int valueRegister, int originRegister) {
        Member member = members[process];
        int number = member.current.took + 1;
        if (!member.log.has(number)) {
            return false;
        }
        // The value is written last: it is what counts when both registers are the same.
        member.current.registers[originRegister] = member.log.originAt(number);
        member.current.registers[valueRegister] = member.log.valueAt(number);
        member.current.took = number;
        return true;
    }

    private boolean tryPut(int process, int value) {
        Member member = members[process];
        if (member.current.putOut < member.everPutOut) {
            member.heldBack++;
        } else if (shown.isFull()) {
            return false;
        } else {
            shown.append(value, process);
            member.everPutOut++;
        }
        member.current.putOut++;
        return true;
    }

    /** A process, with what it loses in a crash (current) and what outlives it (all else). */
    private static final class Member {
        final Program program = new Program();
        final State current = new State();
        final State saved = new State();
        final NumberedRow log = new NumberedRow(LOG_LIMIT);
        boolean up = true;
        // A crash may set the age back to 0, so that it can't tell whether an instruction was ever done.
        boolean began;
        int everPutOut;
        int heldBack;
    }

    private static final class State {
        final int[] registers = new int[REGISTERS];
        final int[] sentTo = new int[PROCESSES];
        int place;
        int age;
        int took;
        int putOut;

        void copyFrom(State other) {
            System.arraycopy(other.registers, 0, registers, 0, REGISTERS);
            System.arraycopy(other.sentTo, 0, sentTo, 0, PROCESSES);
            place = other.place;
            age = other.age;
            took = other.took;
            putOut = other.putOut;
        }
    }

    private static final class Program {
        final int[] ops = new int[PROGRAM_LIMIT];
        final int[] firsts = new int[PROGRAM_LIMIT];
        final int[] seconds = new int[PROGRAM_LIMIT];
        int length;

        boolean isFull() {
            return length >= PROGRAM_LIMIT;
        }

        boolean has(int place) {
            return place >= 0 && place < length;
        }

        void append(int op, int a, int b) {
            ops[length] = op;
            firsts[length] = a;
            seconds[length] = b;
            length++;
        }
    }

    /**
     * Values, each with the process that it came from, numbered 1, 2, .. as they come; the first of
     * them may be gone. Channels, logs and outputs are such rows.
     */
    private static final class NumberedRow {
        final int[] values;
        final int[] origins;
        int gone;
        int last;

        NumberedRow(int limit) {
            values = new int[limit];
            origins = new int[limit];
        }

        int count() {
            return last - gone;
        }

        boolean isFull() {
            return count() >= values.length;
        }

        boolean has(int number) {
            return number > gone && number <= last;
        }

        int valueAt(int number) {
            return values[slot(number)];
        }

        int originAt(int number) {
            return origins[slot(number)];
        }

        int append(int value, int origin) {
            last++;
            values[slot(last)] = value;
            origins[slot(last)] = origin;
            return last;
        }

        /** All up to a number are gone then; answers how many of them were still here. */
        int dropThrough(int number) {
            int dropped = number - gone;
            gone = number;
            return dropped;
        }

        /** At most as many numbers are here at once as there are slots, so none meets another. */
        private int slot(int number) {
            return Math.floorMod(number, values.length);
        }
    }
}
