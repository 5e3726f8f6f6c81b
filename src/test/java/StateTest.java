/** Promises 14, 15 and 17 to 19: register, peek, plain, outputs, output. */
public final class StateTest {
    private static final int MIN = Integer.MIN_VALUE;
    private static final int MAX = Integer.MAX_VALUE;
    private static final Check CHECK = new Check();

    public static void main(String[] args) {
        registersOfTheStreamThatWritesThem();
        registersThatThereAreNot();
        wordsByFiveBits();
        memoriesAreApart();
        plainDoesEachKind();
        plainArithmeticWraps();
        comparisons();
        streamsDoTheSameArithmetic();
        outputsAreCountedAndSomeKept();
        CHECK.end();
    }

    private static void due(String what, long got, long want) {
        CHECK.due(what, got, want);
    }

    private static void registersOfTheStreamThatWritesThem() {
        SlippedStreams x = CHECK.with(
                Check.in(Check.SET, 0, 0, 5),
                Check.in(Check.SET, 1, 0, 6),
                Check.in(Check.OUT, 0, 0, 0),
                Check.in(Check.SET, 0, 0, 7),
                Check.in(Check.SET, 1, 0, 8),
                Check.in(Check.LOAD, 2, 0, 0));
        x.address(1);
        due("14 address register", x.register(0, false), 5);
        due("14 value register not yet", x.register(1, false), 0);
        due("14 plain not yet", x.register(0, true), 0);
        x.address(2);
        x.value(2);
        due("14 address register is ahead", x.register(0, false), 7);
        due("14 value register", x.register(1, false), 6);
        x.plain(2);
        due("14 plain address register", x.register(0, true), 5);
        due("14 plain value register", x.register(1, true), 6);
    }

    private static void registersThatThereAreNot() {
        SlippedStreams x = new SlippedStreams();
        for (int r = 0; r < 8; r++) {
            CHECK.addAll(x, Check.in(Check.SET, r, 0, r + 1));
        }
        x.value(50);
        x.plain(50);
        for (int r = 0; r < 8; r++) {
            due("14 register " + r, x.register(r, false), r + 1);
            due("14 plain register " + r, x.register(r, true), r + 1);
        }
        for (int r : new int[] {-1, 8, MIN, MAX}) {
            due("14 no register " + r, x.register(r, false), 0);
            due("14 no plain register " + r, x.register(r, true), 0);
        }
    }

    private static void wordsByFiveBits() {
        SlippedStreams x = new SlippedStreams();
        x.fill(0, 1);
        int[] addresses = {0, 31, 32, 63, -1, -32, -33, MAX, MIN};
        int[] want = {0, 31, 0, 31, 31, 0, 31, 31, 0};
        for (int i = 0; i < addresses.length; i++) {
            due("15 word " + addresses[i], x.peek(addresses[i], false), want[i]);
            due("15 plain word " + addresses[i], x.peek(addresses[i], true), want[i]);
        }
    }

    private static void memoriesAreApart() {
        SlippedStreams x = CHECK.with(Check.in(Check.SET, 0, 0, 4), Check.in(Check.STORE, 0, 0, 0));
        x.plain(50);
        due("15 plain written", x.peek(4, true), 4);
        due("15 streams not", x.peek(4, false), 0);
        x.reset();
        x.both(50);
        due("15 streams written", x.peek(4, false), 4);
        due("15 plain not", x.peek(4, true), 0);
        x.reset();
        due("15 filled again", x.peek(4, false), 0);
    }

    private static void plainDoesEachKind() {
        SlippedStreams x = CHECK.with(
                Check.in(Check.SET, 1, 0, 6),
                Check.in(Check.SET, 2, 0, 4),
                Check.in(Check.ADD, 3, 1, 2),
                Check.in(Check.SUB, 4, 1, 2),
                Check.in(Check.MUL, 5, 1, 2),
                Check.in(Check.LOAD, 6, 1, -7),
                Check.in(Check.STORE, 5, 2, 32),
                Check.in(Check.OUT, 6, 0, 0),
                Check.in(Check.DIFFER, 1, 1, 0),
                Check.in(Check.LESS, 2, 1, 11),
                Check.in(Check.OUT, 1, 0, 0),
                Check.in(Check.OUT, 5, 0, 0));
        x.fill(50, 1);
        due("17 one", x.plain(1), 1);
        due("17 r1", x.register(1, true), 6);
        due("17 place", x.place(2), 1);
        due("17 the rest", x.plain(50), 10);
        int[] want = {0, 6, 4, 10, 2, 24, 81, 0};
        for (int r = 0; r < 8; r++) {
            due("17 register " + r, x.register(r, true), want[r]);
        }
        due("17 stored", x.peek(4, true), 24);
        due("18 two", x.outputs(true), 2);
        due("19 first", x.output(0, true), 81);
        due("19 second", x.output(1, true), 24);
        due("17 ended", x.place(2), 12);
        due("17 no more", x.plain(1), 0);
        due("17 leaves the streams alone", x.outputs(false), 0);
        due("17 leaves the places alone", x.place(1), 2);
    }

    private static void plainArithmeticWraps() {
        SlippedStreams x = wrapping();
        x.plain(50);
        dueWrapped(x, true);
    }

    private static void streamsDoTheSameArithmetic() {
        SlippedStreams x = wrapping();
        x.value(50);
        dueWrapped(x, false);
        CHECK.addAll(x, Check.in(Check.LOAD, 7, 2, 0), Check.in(Check.LOAD, 7, 3, 0),
                Check.in(Check.LOAD, 7, 4, 0));
        due("17 of addresses now", x.addressRegisters(), 5);
        x.address(50);
        dueWrapped(x, false);
    }

    private static SlippedStreams wrapping() {
        return CHECK.with(
                Check.in(Check.SET, 0, 0, MAX),
                Check.in(Check.SET, 1, 0, MIN),
                Check.in(Check.ADD, 2, 0, 0),
                Check.in(Check.SUB, 3, 1, 0),
                Check.in(Check.MUL, 4, 0, 1));
    }

    private static void dueWrapped(SlippedStreams x, boolean plain) {
        due("17 MAX + MAX", x.register(2, plain), -2);
        due("17 MIN - MAX", x.register(3, plain), 1);
        due("17 MAX * MIN", x.register(4, plain), MIN);
    }

    /** Which of the two OUTs is gone to, by each run; compares far ends too. */
    private static void comparisons() {
        int[][] pairs = {{0, 0}, {1, 2}, {2, 1}, {MIN, MAX}, {MAX, MIN}, {-1, 0}};
        for (int[] p : pairs) {
            for (int kind = Check.LESS; kind <= Check.DIFFER; kind++) {
                for (int addresses = 0; addresses <= 1; addresses++) {
                    SlippedStreams x = CHECK.with(
                            Check.in(Check.SET, 0, 0, p[0]),
                            Check.in(Check.SET, 1, 0, p[1]),
                            Check.in(kind, 0, 1, 5),
                            Check.in(Check.SET, 2, 0, 1),
                            Check.in(kind, 0, 1, 5),
                            Check.in(Check.OUT, 2, 0, 0));
                    if (addresses == 1) {
                        CHECK.addAll(x, Check.in(Check.LOAD, 3, 0, 0), Check.in(Check.LOAD, 3, 1, 0));
                    }
                    boolean outcome = kind == Check.LESS ? p[0] < p[1] : p[0] != p[1];
                    x.both(50);
                    x.plain(50);
                    due("kind " + kind + " streams", x.output(0, false), outcome ? 0 : 1);
                    due("kind " + kind + " plain", x.output(0, true), outcome ? 0 : 1);
                }
            }
        }
    }

    private static void outputsAreCountedAndSomeKept() {
        SlippedStreams x = CHECK.with(
                Check.in(Check.SET, 1, 0, 1),
                Check.in(Check.ADD, 0, 0, 1),
                Check.in(Check.OUT, 0, 0, 0),
                Check.in(Check.DIFFER, 0, 2, 1));
        for (int i = 0; i < 5; i++) {
            x.both(50);
            x.plain(50);
        }
        for (int plain = 0; plain <= 1; plain++) {
            boolean p = plain == 1;
            due("18 all counted", x.outputs(p), 83);
            for (int i = 0; i < 64; i++) {
                due("19 kept " + i, x.output(i, p), i + 1);
            }
            for (int i : new int[] {64, 65, 82, 83, -1, MIN, MAX}) {
                due("19 not kept " + i, x.output(i, p), 0);
            }
        }
        x.reset();
        x.both(3);
        x.plain(3);
        due("18 one", x.outputs(false), 1);
        due("18 one plain", x.outputs(true), 1);
        due("19 one", x.output(0, false), 1);
        due("19 no older one", x.output(1, false), 0);
        due("19 no older plain one", x.output(1, true), 0);
    }
}
