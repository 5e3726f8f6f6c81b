/**
 * Made-up programs and calls, the same ones each time. Every answer is held against the model's; and
 * when all have ended, the streams must have come to just what the plain run came to.
 */
public final class RandomRunsTest {
    private static final int RUNS = 12000;
    /** The document promises nothing of later calls of one object. */
    private static final int MOST_CALLS = 512;
    private static final int CALLS_OF_A_LOOK = 252;
    private static final int CALLS_OF_A_STEP = 6;

    private static final Check CHECK = new Check();
    private static long seed = 20261115L;
    private static int ends;
    private static int callsLeft;

    public static void main(String[] args) {
        for (int run = 0; run < RUNS && CHECK.allRight(); run++) {
            againstTheModel(run);
        }
        for (int run = 0; run < RUNS && CHECK.allRight(); run++) {
            againstThePlainRun(run);
        }
        CHECK.due("enough programs came to an end", ends > RUNS / 4 ? 1 : 0, 1);
        CHECK.end();
    }

    private static int below(int n) {
        seed = seed * 6364136223846793005L + 1442695040888963407L;
        return (int) ((seed >>> 33) % n);
    }

    /** Few registers are used, so that slices, queues and addresses often meet. */
    private static int[] instruction(int number, int size) {
        int[] kinds = {0, 0, 1, 1, 2, 3, 4, 4, 4, 5, 5, 5, 6, 7, 8, 8};
        int kind = kinds[below(kinds.length)];
        int registers = 2 + below(7);
        int c = below(registers);
        if (kind == Check.SET || kind == Check.LOAD || kind == Check.STORE) {
            c = below(8) == 0 ? (int) seed : below(5) - 1;
        } else if (kind == Check.LESS || kind == Check.DIFFER) {
            c = below(3) == 0 ? below(size + 1) : Math.min(24, number + 1 + below(3));
        }
        return new int[] {kind, below(registers), below(registers), c};
    }

    private static void againstTheModel(int run) {
        SlippedStreams x = new SlippedStreams();
        Model m = new Model();
        callsLeft = MOST_CALLS - CALLS_OF_A_LOOK;
        load(x, m);
        int calls = 1 + below(MOST_CALLS / CALLS_OF_A_STEP / 2);
        for (int call = 0; call < calls && callsLeft > CALLS_OF_A_STEP && CHECK.allRight(); call++) {
            String what = "run " + run + ", call " + call;
            step(what, x, m);
            glance(what, x, m);
        }
        compare("run " + run, x, m);
        if (!CHECK.allRight()) {
            m.program.forEach(i -> System.out.println(java.util.Arrays.toString(i)));
        }
    }

    private static void step(String what, SlippedStreams x, Model m) {
        int n = below(3) == 0 ? 1 + below(50) : 1 + below(4);
        switch (below(12)) {
            case 0:
            case 1:
            case 2:
            case 3:
                CHECK.due(what + " address(" + n + ")", x.address(n), m.advance(0, n));
                break;
            case 4:
            case 5:
            case 6:
            case 7:
                CHECK.due(what + " value(" + n + ")", x.value(n), m.advance(1, n));
                break;
            case 8:
            case 9:
                CHECK.due(what + " both(" + n + ")", x.both(n), m.both(n));
                break;
            case 10:
                CHECK.due(what + " plain(" + n + ")", x.plain(n), m.plain(n));
                break;
            default:
                beginAnew(x, m);
                break;
        }
    }

    /** A look at little, so that many calls can be made of one object: with the step, six calls. */
    private static void glance(String what, SlippedStreams x, Model m) {
        m.look(0);
        m.look(1);
        CHECK.due(what + " place 0", x.place(0), m.place(0));
        CHECK.due(what + " place 1", x.place(1), m.place(1));
        CHECK.due(what + " slip", x.slip(), m.slip());
        CHECK.due(what + " losses", x.losses(), m.losses);
        int q = below(5);
        CHECK.due(what + " queue " + q, x.queue(q), m.queues.get(q).size());
        callsLeft -= CALLS_OF_A_STEP;
    }

    private static void load(SlippedStreams x, Model m) {
        int size = below(25);
        int first = firstWord();
        int step = below(10);
        x.fill(first, step);
        for (int i = 0; i < 32; i++) {
            m.filled[i] = first + i * step;
        }
        for (int i = 0; i < size; i++) {
            int[] in = instruction(i, size);
            CHECK.due("add", x.add(in[0], in[1], in[2], in[3]), i);
            m.program.add(in);
        }
        m.begin();
        callsLeft -= 1 + size;
    }

    private static int firstWord() {
        return below(4) == 0 ? (int) seed : below(40);
    }

    private static void beginAnew(SlippedStreams x, Model m) {
        if (below(4) == 0 && callsLeft > 40) {
            CHECK.due("clear", x.clear(), m.program.size());
            m.program.clear();
            load(x, m);
        } else if (below(4) == 0) {
            x.reset();
            m.begin();
        }
    }

    private static void compare(String what, SlippedStreams x, Model m) {
        m.look(0);
        m.look(1);
        for (int run = 0; run < 3; run++) {
            CHECK.due(what + " place " + run, x.place(run), m.place(run));
        }
        CHECK.due(what + " slip", x.slip(), m.slip());
        CHECK.due(what + " losses", x.losses(), m.losses);
        CHECK.due(what + " addressRegisters", x.addressRegisters(), m.addressRegisters().size());
        for (int i = 0; i < m.program.size(); i++) {
            CHECK.due(what + " streamOf " + i, x.streamOf(i), m.streamOf(i));
        }
        for (int q = 0; q < 5; q++) {
            CHECK.due(what + " queue " + q, x.queue(q), m.queues.get(q).size());
        }
        CHECK.due(what + " list", x.queue(5), m.list.size());
        for (int r = 0; r < 8; r++) {
            int stream = m.addressRegisters().contains(r) ? 0 : 1;
            CHECK.due(what + " register " + r, x.register(r, false), m.registers[stream][r]);
            CHECK.due(what + " plain register " + r, x.register(r, true), m.registers[2][r]);
        }
        for (int i = 0; i < 32; i++) {
            CHECK.due(what + " peek " + i, x.peek(i, false), m.memory[i]);
            CHECK.due(what + " plain peek " + i, x.peek(i, true), m.plainMemory[i]);
        }
        compareWritten(what, x, m.written, false);
        compareWritten(what + " plain", x, m.plainWritten, true);
    }

    private static void compareWritten(String what, SlippedStreams x, java.util.List<Integer> written,
            boolean plain) {
        CHECK.due(what + " outputs", x.outputs(plain), written.size());
        for (int i = -1; i < 66; i++) {
            boolean kept = i >= 0 && i < written.size() && i < 64;
            CHECK.due(what + " output " + i, x.output(i, plain), kept ? written.get(i) : 0);
        }
    }

    private static void againstThePlainRun(int run) {
        SlippedStreams x = new SlippedStreams();
        Model m = new Model();
        load(x, m);
        for (int turn = 0; turn < 70; turn++) {
            x.address(1 + below(9));
            x.value(1 + below(9));
            x.plain(10);
        }
        int size = m.program.size();
        if (x.place(0) != size || x.place(1) != size || x.place(2) != size) {
            return;
        }
        ends++;
        String what = "run " + run + " ended:";
        CHECK.due(what + " slip", x.slip(), 0);
        CHECK.due(what + " outputs", x.outputs(false), x.outputs(true));
        for (int i = 0; i < 64; i++) {
            CHECK.due(what + " output " + i, x.output(i, false), x.output(i, true));
        }
        for (int r = 0; r < 8; r++) {
            CHECK.due(what + " register " + r, x.register(r, false), x.register(r, true));
        }
        for (int i = 0; i < 32; i++) {
            CHECK.due(what + " peek " + i, x.peek(i, false), x.peek(i, true));
        }
        for (int q = 0; q <= 5; q++) {
            CHECK.due(what + " queue " + q, x.queue(q), 0);
        }
    }
}
