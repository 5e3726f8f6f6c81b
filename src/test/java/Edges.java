/** What the tests of edges share: short names of instructions, and looks at a whole object. */
abstract class Edges {
    static final int NONE = SlippedStreams.NONE;
    static final int MIN = Integer.MIN_VALUE;
    static final int MAX = Integer.MAX_VALUE;
    static final int L = Check.L;
    static final int S = Check.S;
    static final int V = Check.V;
    static final int A = Check.A;
    static final int R = Check.R;
    static final int LIST = Check.LIST;
    static final Check CHECK = new Check();

    /** A call whose answer is looked at. */
    interface Call {
        int on(SlippedStreams x);
    }

    static void due(String what, long got, long want) {
        CHECK.due(what, got, want);
    }

    static SlippedStreams with(int[]... instructions) {
        return CHECK.with(instructions);
    }

    static SlippedStreams with(java.util.List<int[]> instructions) {
        return CHECK.with(instructions.toArray(new int[0][]));
    }

    static int[] set(int a, int c) {
        return Check.in(Check.SET, a, 0, c);
    }

    static int[] add(int a, int b, int c) {
        return Check.in(Check.ADD, a, b, c);
    }

    static int[] sub(int a, int b, int c) {
        return Check.in(Check.SUB, a, b, c);
    }

    static int[] mul(int a, int b, int c) {
        return Check.in(Check.MUL, a, b, c);
    }

    static int[] load(int a, int b, int c) {
        return Check.in(Check.LOAD, a, b, c);
    }

    static int[] store(int a, int b, int c) {
        return Check.in(Check.STORE, a, b, c);
    }

    static int[] less(int a, int b, int c) {
        return Check.in(Check.LESS, a, b, c);
    }

    static int[] differ(int a, int b, int c) {
        return Check.in(Check.DIFFER, a, b, c);
    }

    static int[] out(int a) {
        return Check.in(Check.OUT, a, 0, 0);
    }

    /** All that can be seen of an object, by some 130 calls: at most three looks at one object. */
    static int[] seen(SlippedStreams x) {
        java.util.List<Integer> all = new java.util.ArrayList<>();
        for (int run = 0; run < 3; run++) {
            all.add(x.place(run));
        }
        all.add(x.slip());
        all.add(x.losses());
        all.add(x.addressRegisters());
        for (int i = 0; i < 24; i++) {
            all.add(x.streamOf(i));
        }
        for (int q = 0; q <= 5; q++) {
            all.add(x.queue(q));
        }
        for (int plain = 0; plain < 2; plain++) {
            for (int r = 0; r < 8; r++) {
                all.add(x.register(r, plain == 1));
            }
            for (int i = 0; i < 32; i++) {
                all.add(x.peek(i, plain == 1));
            }
            all.add(x.outputs(plain == 1));
            for (int i = 0; i < 5; i++) {
                all.add(x.output(i, plain == 1));
            }
        }
        return all.stream().mapToInt(Integer::intValue).toArray();
    }

    static void dueSame(String what, SlippedStreams got, SlippedStreams want) {
        int[] g = seen(got);
        int[] w = seen(want);
        for (int i = 0; i < w.length; i++) {
            due(what + ": look " + i, g[i], w[i]);
        }
    }
}
