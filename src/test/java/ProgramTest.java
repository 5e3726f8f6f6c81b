/** Promises 1 to 7: a new object, add, fill, clear, reset, streamOf, addressRegisters. */
public final class ProgramTest {
    private static final int NONE = SlippedStreams.NONE;
    private static final int MIN = Integer.MIN_VALUE;
    private static final int MAX = Integer.MAX_VALUE;

    private static final Check CHECK = new Check();

    public static void main(String[] args) {
        newObject();
        addTakes();
        addRefuses();
        addRefusesTheTwentyFifth();
        addBeginsAnew();
        refusedAddChangesNothing();
        fillWraps();
        fillBeginsAnew();
        clearKeepsTheFilledMemory();
        resetBeginsAnew();
        slicesOfEachKind();
        slicesGoBackThroughArithmetic();
        slicesDoNotGoThroughOthers();
        longChainOfSlices();
        CHECK.end();
    }

    private static void due(String what, long got, long want) {
        CHECK.due(what, got, want);
    }

    private static void newObject() {
        SlippedStreams x = new SlippedStreams();
        for (int i = 0; i < 32; i++) {
            due("1 peek " + i, x.peek(i, false), 0);
            due("1 plain peek " + i, x.peek(i, true), 0);
        }
        for (int r = 0; r < 8; r++) {
            due("1 register " + r, x.register(r, false), 0);
            due("1 plain register " + r, x.register(r, true), 0);
        }
        for (int q = 0; q <= 5; q++) {
            due("1 queue " + q, x.queue(q), 0);
        }
        due("1 streamOf", x.streamOf(0), NONE);
        due("1 addressRegisters", x.addressRegisters(), 0);
        due("1 address", x.address(50), 0);
        due("1 value", x.value(50), 0);
        due("1 both", x.both(50), 0);
        due("1 plain", x.plain(50), 0);
        due("1 place 0", x.place(0), 0);
        due("1 place 1", x.place(1), 0);
        due("1 place 2", x.place(2), 0);
        due("1 slip", x.slip(), 0);
        due("1 losses", x.losses(), 0);
        due("1 outputs", x.outputs(false), 0);
        due("1 plain outputs", x.outputs(true), 0);
        due("1 output", x.output(0, false), 0);
        due("1 clear", x.clear(), 0);
    }

    private static void addTakes() {
        SlippedStreams x = new SlippedStreams();
        due("2 SET has no b", x.add(Check.SET, 7, MIN, MIN), 0);
        due("2 ADD", x.add(Check.ADD, 0, 7, 0), 1);
        due("2 SUB", x.add(Check.SUB, 7, 0, 7), 2);
        due("2 MUL", x.add(Check.MUL, 7, 7, 7), 3);
        due("2 LOAD with any c", x.add(Check.LOAD, 0, 7, MAX), 4);
        due("2 STORE with any c", x.add(Check.STORE, 7, 0, MIN), 5);
        due("2 LESS to 0", x.add(Check.LESS, 0, 7, 0), 6);
        due("2 DIFFER to 24", x.add(Check.DIFFER, 7, 0, 24), 7);
        due("2 OUT has no b and no c", x.add(Check.OUT, 7, MAX, -1), 8);
        due("2 clear", x.clear(), 9);
    }

    private static void addRefuses() {
        SlippedStreams x = new SlippedStreams();
        for (int bad : new int[] {-1, 8, MIN, MAX}) {
            for (int kind = 0; kind <= 8; kind++) {
                due("2 a " + bad + " of " + kind, x.add(kind, bad, 0, 0), NONE);
            }
            for (int kind = 1; kind <= 7; kind++) {
                due("2 b " + bad + " of " + kind, x.add(kind, 0, bad, 0), NONE);
            }
            for (int kind = 1; kind <= 3; kind++) {
                due("2 c " + bad + " of " + kind, x.add(kind, 0, 0, bad), NONE);
            }
        }
        for (int bad : new int[] {-1, 25, MIN, MAX}) {
            due("2 LESS to " + bad, x.add(Check.LESS, 0, 0, bad), NONE);
            due("2 DIFFER to " + bad, x.add(Check.DIFFER, 0, 0, bad), NONE);
        }
        for (int bad : new int[] {-1, 9, MIN, MAX}) {
            due("2 kind " + bad, x.add(bad, 0, 0, 0), NONE);
        }
        due("2 none was added", x.clear(), 0);
    }

    private static void addRefusesTheTwentyFifth() {
        SlippedStreams x = new SlippedStreams();
        for (int i = 0; i < 24; i++) {
            due("2 number " + i, x.add(Check.OUT, 0, 0, 0), i);
        }
        due("2 the 25th", x.add(Check.OUT, 0, 0, 0), NONE);
        due("2 plain does 24", x.plain(50), 24);
        due("2 values does 24", x.value(50), 24);
        due("2 clear 24", x.clear(), 24);
        due("2 after clear", x.add(Check.OUT, 0, 0, 0), 0);
    }

    /** Moves both runs and leaves something behind in every place that begins anew. */
    private static SlippedStreams used() {
        SlippedStreams x = CHECK.with(
                Check.in(Check.SET, 0, 0, 3),
                Check.in(Check.SET, 1, 0, 7),
                Check.in(Check.OUT, 1, 0, 0),
                Check.in(Check.STORE, 0, 0, 0),
                Check.in(Check.STORE, 1, 0, 1),
                Check.in(Check.LOAD, 2, 0, 5),
                Check.in(Check.OUT, 0, 0, 0),
                Check.in(Check.LESS, 0, 0, 8),
                Check.in(Check.LESS, 0, 1, 0));
        due("used: address", x.address(50), 7);
        due("used: value", x.value(2), 2);
        due("used: plain", x.plain(50), 50);
        due("used: losses", x.losses(), 1);
        due("used: peek", x.peek(3, false), 3);
        due("used: slip", x.slip(), 4);
        due("used: outputs", x.outputs(false), 1);
        due("used: V", x.queue(Check.V), 1);
        return x;
    }

    private static void dueAnew(String what, SlippedStreams x, int word3) {
        for (int q = 0; q <= 5; q++) {
            due(what + " queue " + q, x.queue(q), 0);
        }
        for (int r = 0; r < 8; r++) {
            due(what + " register " + r, x.register(r, false), 0);
            due(what + " plain register " + r, x.register(r, true), 0);
        }
        due(what + " peek", x.peek(3, false), word3);
        due(what + " plain peek", x.peek(3, true), word3);
        due(what + " losses", x.losses(), 0);
        due(what + " outputs", x.outputs(false), 0);
        due(what + " plain outputs", x.outputs(true), 0);
        due(what + " output", x.output(0, false), 0);
        due(what + " plain output", x.output(0, true), 0);
        due(what + " place 0", x.place(0), 0);
        due(what + " place 2", x.place(2), 0);
    }

    private static void addBeginsAnew() {
        SlippedStreams x = used();
        due("2 add", x.add(Check.OUT, 1, 0, 0), 9);
        dueAnew("2", x, 0);
        due("2 place 1", x.place(1), 1);
        due("2 slip", x.slip(), -1);
        due("2 runs again", x.address(50), 7);
        due("2 loses again", x.losses(), 1);
    }

    private static void refusedAddChangesNothing() {
        SlippedStreams x = used();
        due("2 refused", x.add(9, 0, 0, 0), NONE);
        due("2 refused too", x.add(Check.LESS, 0, 0, 25), NONE);
        due("2 refused losses", x.losses(), 1);
        due("2 refused place 0", x.place(0), 8);
        due("2 refused place 1", x.place(1), 4);
        due("2 refused V", x.queue(Check.V), 1);
        due("2 refused peek", x.peek(3, false), 3);
        due("2 refused outputs", x.outputs(false), 1);
        due("2 refused plain place", x.place(2), 50 % 9);
    }

    private static void fillWraps() {
        SlippedStreams x = new SlippedStreams();
        x.fill(-5, 3);
        for (int i = 0; i < 32; i++) {
            due("3 word " + i, x.peek(i, false), -5 + 3 * i);
            due("3 plain word " + i, x.peek(i, true), -5 + 3 * i);
        }
        x.fill(MAX, MAX);
        due("3 word 0", x.peek(0, false), MAX);
        due("3 word 1", x.peek(1, false), -2);
        due("3 word 31", x.peek(31, true), -32);
    }

    private static void fillBeginsAnew() {
        SlippedStreams x = used();
        x.fill(100, 10);
        dueAnew("3", x, 130);
        due("3 the program is there", x.clear(), 9);
    }

    private static void clearKeepsTheFilledMemory() {
        SlippedStreams x = used();
        x.fill(100, 10);
        x.both(50);
        x.plain(50);
        due("4 clear", x.clear(), 9);
        dueAnew("4", x, 130);
        due("4 place 1", x.place(1), 0);
        due("4 slip", x.slip(), 0);
        due("4 streamOf", x.streamOf(0), NONE);
        due("4 addressRegisters", x.addressRegisters(), 0);
        due("4 nothing to run", x.both(50) + x.plain(50), 0);
        due("4 clear again", x.clear(), 0);
        due("4 add", x.add(Check.OUT, 0, 0, 0), 0);
        due("4 r0 is a value register now", x.streamOf(0), 1);
    }

    private static void resetBeginsAnew() {
        SlippedStreams x = used();
        x.reset();
        dueAnew("5", x, 0);
        due("5 place 1", x.place(1), 1);
        due("5 the program is there", x.streamOf(8), 1);
        due("5 runs again", x.address(50), 7);
        x.fill(4, 0);
        x.both(50);
        x.reset();
        dueAnew("5 filled", x, 4);
    }

    private static void slicesOfEachKind() {
        SlippedStreams x = CHECK.with(
                Check.in(Check.SET, 0, 0, 0),
                Check.in(Check.SET, 1, 0, 0),
                Check.in(Check.ADD, 0, 0, 0),
                Check.in(Check.SUB, 1, 0, 0),
                Check.in(Check.MUL, 1, 1, 1),
                Check.in(Check.LOAD, 0, 0, 0),
                Check.in(Check.LOAD, 1, 0, 0),
                Check.in(Check.STORE, 0, 0, 0),
                Check.in(Check.STORE, 1, 0, 0),
                Check.in(Check.LESS, 0, 0, 0),
                Check.in(Check.LESS, 0, 1, 0),
                Check.in(Check.LESS, 1, 0, 0),
                Check.in(Check.DIFFER, 1, 1, 0),
                Check.in(Check.DIFFER, 0, 0, 0),
                Check.in(Check.OUT, 0, 0, 0),
                Check.in(Check.OUT, 1, 0, 0));
        int[] want = {0, 1, 0, 1, 1, 0, 1, 0, 0, 0, 1, 1, 1, 0, 1, 1};
        for (int i = 0; i < want.length; i++) {
            due("6 streamOf " + i, x.streamOf(i), want[i]);
        }
        due("6 behind the last", x.streamOf(16), NONE);
        due("6 before the first", x.streamOf(-1), NONE);
        due("6 far off", x.streamOf(MAX), NONE);
        due("6 far off below", x.streamOf(MIN), NONE);
        due("7 one", x.addressRegisters(), 1);
    }

    private static void slicesGoBackThroughArithmetic() {
        SlippedStreams x = CHECK.with(
                Check.in(Check.MUL, 4, 5, 6),
                Check.in(Check.ADD, 2, 3, 3),
                Check.in(Check.SUB, 1, 2, 4),
                Check.in(Check.ADD, 7, 1, 7));
        due("7 no load, no store", x.addressRegisters(), 0);
        due("6 no load, no store", x.streamOf(0), 1);
        x.add(Check.STORE, 7, 1, 0);
        due("7 all but 0 and 7", x.addressRegisters(), 6);
        due("6 MUL", x.streamOf(0), 0);
        due("6 ADD", x.streamOf(1), 0);
        due("6 SUB", x.streamOf(2), 0);
        due("6 ADD of 7", x.streamOf(3), 1);
        due("6 STORE", x.streamOf(4), 0);
        x.add(Check.LOAD, 0, 7, 0);
        due("7 and 7", x.addressRegisters(), 7);
        due("6 ADD of 7 now", x.streamOf(3), 0);
        due("6 LOAD", x.streamOf(5), 1);
    }

    private static void slicesDoNotGoThroughOthers() {
        SlippedStreams x = CHECK.with(
                Check.in(Check.LOAD, 1, 0, 2),
                Check.in(Check.SET, 0, 3, 3),
                Check.in(Check.STORE, 4, 0, 5),
                Check.in(Check.LESS, 0, 6, 7),
                Check.in(Check.OUT, 0, 7, 7));
        due("7 only b of LOAD and STORE", x.addressRegisters(), 1);
        due("6 LOAD of a value", x.streamOf(0), 1);
        due("6 SET of an address", x.streamOf(1), 0);
    }

    /** Each register makes the one before it; the last one in the program is found first. */
    private static void longChainOfSlices() {
        SlippedStreams x = new SlippedStreams();
        for (int r = 7; r > 0; r--) {
            x.add(Check.ADD, r - 1, r, r);
        }
        x.add(Check.LOAD, 0, 0, 0);
        due("7 chain of eight", x.addressRegisters(), 8);
        SlippedStreams y = new SlippedStreams();
        y.add(Check.LOAD, 0, 0, 0);
        for (int r = 0; r < 7; r++) {
            y.add(Check.SUB, r, r, r + 1);
        }
        due("7 chain of eight, the other way", y.addressRegisters(), 8);
    }
}
