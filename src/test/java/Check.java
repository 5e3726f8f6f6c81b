/** Counts the answers that are not the ones that are due, and ends a test by them. */
final class Check {
    static final int SET = 0;
    static final int ADD = 1;
    static final int SUB = 2;
    static final int MUL = 3;
    static final int LOAD = 4;
    static final int STORE = 5;
    static final int LESS = 6;
    static final int DIFFER = 7;
    static final int OUT = 8;

    static final int L = 0;
    static final int S = 1;
    static final int V = 2;
    static final int A = 3;
    static final int R = 4;
    static final int LIST = 5;

    private int wrong;

    /** A new object with these instructions, four numbers each; all of them must be taken. */
    SlippedStreams with(int[]... instructions) {
        SlippedStreams x = new SlippedStreams();
        addAll(x, instructions);
        return x;
    }

    void addAll(SlippedStreams x, int[]... instructions) {
        for (int[] i : instructions) {
            if (x.add(i[0], i[1], i[2], i[3]) == SlippedStreams.NONE) {
                wrong++;
                System.out.println("an instruction was refused: " + java.util.Arrays.toString(i));
            }
        }
    }

    static int[] in(int kind, int a, int b, int c) {
        return new int[] {kind, a, b, c};
    }

    void due(String what, long got, long want) {
        if (got != want) {
            wrong++;
            System.out.println(what + " answered " + got + ", due is " + want);
        }
    }

    boolean allRight() {
        return wrong == 0;
    }

    void end() {
        System.out.println(wrong == 0 ? "all answers are as due" : wrong + " answers are not as due");
        if (wrong != 0) {
            System.exit(1);
        }
    }
}
