import java.util.ArrayDeque;
import java.util.ArrayList;
import java.util.Arrays;
import java.util.Deque;
import java.util.LinkedHashSet;
import java.util.List;
import java.util.Set;
import java.util.TreeSet;

/**
 * The document's terms, told over again as slowly as they are written: nothing is worked out ahead,
 * and a stream goes over nothing only when somebody looks. Only right calls are made of it.
 */
final class Model {
    private static final int MOVED = 1;
    private static final int WAITS = 0;
    private static final int NOTHING = -1;

    static final class Store {
        final int address;
        Integer value;

        Store(int address, Integer value) {
            this.address = address;
            this.value = value;
        }
    }

    final List<int[]> program = new ArrayList<>();
    int[] filled = new int[32];
    int[] memory = new int[32];
    int[] plainMemory = new int[32];
    final int[][] registers = new int[3][8];
    final int[] at = new int[3];
    final int[] left = new int[3];
    final List<Integer> written = new ArrayList<>();
    final List<Integer> plainWritten = new ArrayList<>();
    final List<Deque<Integer>> queues = new ArrayList<>();
    final List<Store> list = new ArrayList<>();
    boolean putPartDone;
    int losses;

    Model() {
        for (int q = 0; q < 5; q++) {
            queues.add(new ArrayDeque<>());
        }
    }

    void begin() {
        memory = filled.clone();
        plainMemory = filled.clone();
        for (int run = 0; run < 3; run++) {
            Arrays.fill(registers[run], 0);
            at[run] = 0;
            left[run] = 0;
        }
        written.clear();
        plainWritten.clear();
        queues.forEach(Deque::clear);
        list.clear();
        putPartDone = false;
        losses = 0;
    }

    Set<Integer> addressRegisters() {
        Set<Integer> found = new TreeSet<>();
        int before = -1;
        while (found.size() > before) {
            before = found.size();
            for (int[] i : program) {
                if (i[0] == Check.LOAD || i[0] == Check.STORE) {
                    found.add(i[2]);
                } else if (i[0] >= Check.ADD && i[0] <= Check.MUL && found.contains(i[1])) {
                    found.add(i[2]);
                    found.add(i[3]);
                }
            }
        }
        return found;
    }

    int streamOf(int number) {
        int[] i = program.get(number);
        Set<Integer> addresses = addressRegisters();
        switch (i[0]) {
            case Check.STORE:
                return 0;
            case Check.OUT:
                return 1;
            case Check.LESS:
            case Check.DIFFER:
                return addresses.contains(i[1]) && addresses.contains(i[2]) ? 0 : 1;
            default:
                return addresses.contains(i[1]) ? 0 : 1;
        }
    }

    boolean ended(int run) {
        return at[run] >= program.size();
    }

    void look(int stream) {
        while (!ended(stream) && part(stream) == NOTHING) {
            go(stream, at[stream] + 1);
        }
    }

    int place(int run) {
        return Math.min(at[run], program.size());
    }

    int slip() {
        return left[0] - left[1];
    }

    boolean isWaitingForOutcome() {
        if (ended(0) || streamOf(at[0]) == 0 || program.get(at[0])[0] < Check.LESS
                || program.get(at[0])[0] > Check.DIFFER) {
            return false;
        }
        return (putPartDone || passed(program.get(at[0])).isEmpty()) && queues.get(Check.A).isEmpty();
    }

    boolean move(int stream) {
        for (int tries = 0; tries < 100 && !ended(stream); tries++) {
            int done = doPart(stream);
            if (done != NOTHING) {
                return done == MOVED;
            }
            go(stream, at[stream] + 1);
        }
        return false;
    }

    int advance(int stream, int n) {
        int moves = 0;
        while (moves < n && move(stream)) {
            moves++;
        }
        if (stream == 0 && moves < n && isWaitingForOutcome()) {
            losses++;
        }
        return moves;
    }

    int both(int n) {
        int moves = 0;
        for (int turn = 0; turn < n; turn++) {
            moves += advance(0, 1) + advance(1, 1);
        }
        return moves;
    }

    int plain(int n) {
        int done = 0;
        for (; done < n && !ended(2); done++) {
            int[] i = program.get(at[2]);
            int[] r = registers[2];
            if (i[0] == Check.LOAD) {
                r[i[1]] = plainMemory[(r[i[2]] + i[3]) & 31];
            } else if (i[0] == Check.STORE) {
                plainMemory[(r[i[2]] + i[3]) & 31] = r[i[1]];
            } else if (i[0] == Check.OUT) {
                plainWritten.add(r[i[1]]);
            } else if (i[0] != Check.LESS && i[0] != Check.DIFFER) {
                reckon(i, r);
            }
            at[2] = isBranch(i) && outcome(i, r) ? i[3] : at[2] + 1;
        }
        return done;
    }

    private static boolean isBranch(int[] i) {
        return i[0] == Check.LESS || i[0] == Check.DIFFER;
    }

    private static boolean outcome(int[] i, int[] r) {
        return i[0] == Check.LESS ? r[i[1]] < r[i[2]] : r[i[1]] != r[i[2]];
    }

    private static void reckon(int[] i, int[] r) {
        switch (i[0]) {
            case Check.SET:
                r[i[1]] = i[3];
                break;
            case Check.ADD:
                r[i[1]] = r[i[2]] + r[i[3]];
                break;
            case Check.SUB:
                r[i[1]] = r[i[2]] - r[i[3]];
                break;
            default:
                r[i[1]] = r[i[2]] * r[i[3]];
                break;
        }
    }

    private void go(int stream, int next) {
        at[stream] = next;
        left[stream]++;
    }

    /** The address registers that an instruction of the value stream reads, in order, each once. */
    private Set<Integer> passed(int[] i) {
        Set<Integer> reads = new LinkedHashSet<>();
        if (i[0] >= Check.ADD && i[0] <= Check.MUL) {
            reads.add(i[2]);
            reads.add(i[3]);
        } else if (isBranch(i)) {
            reads.add(i[1]);
            reads.add(i[2]);
        } else if (i[0] == Check.OUT) {
            reads.add(i[1]);
        }
        reads.retainAll(addressRegisters());
        return reads;
    }

    private int part(int stream) {
        int[] i = program.get(at[stream]);
        int owner = streamOf(at[stream]);
        if (stream == 0) {
            boolean silent = owner == 1 && i[0] != Check.LOAD && !isBranch(i) && passed(i).isEmpty();
            return silent ? NOTHING : MOVED;
        }
        boolean gives = i[0] == Check.STORE && !addressRegisters().contains(i[1]);
        return owner == 0 && !isBranch(i) && !gives ? NOTHING : MOVED;
    }

    private int doPart(int stream) {
        if (part(stream) == NOTHING) {
            return NOTHING;
        }
        int[] i = program.get(at[stream]);
        int done = stream == 0 ? addressPart(i) : valuePart(i);
        while (!list.isEmpty() && list.get(0).value != null) {
            Store first = list.remove(0);
            memory[first.address] = first.value;
        }
        return done;
    }

    private boolean listHas(int address) {
        return list.stream().anyMatch(s -> s.address == address);
    }

    private int addressPart(int[] i) {
        int[] r = registers[0];
        int word = (r[i[2] & 7] + i[3]) & 31;
        boolean own = streamOf(at[0]) == 0;
        if (i[0] == Check.LOAD) {
            if (listHas(word) || !own && queues.get(Check.L).size() == 4) {
                return WAITS;
            }
            if (own) {
                r[i[1]] = memory[word];
            } else {
                queues.get(Check.L).add(memory[word]);
            }
        } else if (i[0] == Check.STORE) {
            if (list.size() == 6) {
                return WAITS;
            }
            boolean here = addressRegisters().contains(i[1]);
            list.add(new Store(word, here ? (Integer) r[i[1]] : queues.get(Check.S).poll()));
        } else if (isBranch(i)) {
            return own ? sendOutcome(0, i, Check.V) : addressPartOfForeignBranch(i);
        } else if (own) {
            reckon(i, r);
        } else if (!putPassed(i)) {
            return WAITS;
        }
        go(0, at[0] + 1);
        return MOVED;
    }

    private int addressPartOfForeignBranch(int[] i) {
        if (!putPartDone && !passed(i).isEmpty()) {
            putPartDone = putPassed(i);
            return putPartDone ? MOVED : WAITS;
        }
        int done = takeOutcome(0, i, Check.A);
        if (done == MOVED) {
            putPartDone = false;
        }
        return done;
    }

    private boolean putPassed(int[] i) {
        if (queues.get(Check.R).size() + passed(i).size() > 6) {
            return false;
        }
        for (int p : passed(i)) {
            queues.get(Check.R).add(registers[0][p]);
        }
        return true;
    }

    private int valuePart(int[] i) {
        int[] r = registers[1];
        boolean own = streamOf(at[1]) == 1;
        if (isBranch(i) && !own) {
            return takeOutcome(1, i, Check.V);
        }
        if (i[0] == Check.STORE) {
            return giveStored(r[i[1]]);
        }
        if (i[0] == Check.LOAD) {
            if (queues.get(Check.L).isEmpty()) {
                return WAITS;
            }
            r[i[1]] = queues.get(Check.L).remove();
            go(1, at[1] + 1);
            return MOVED;
        }
        if (queues.get(Check.R).size() < passed(i).size()
                || isBranch(i) && queues.get(Check.A).size() == 4) {
            return WAITS;
        }
        int[] seen = r.clone();
        for (int p : passed(i)) {
            seen[p] = queues.get(Check.R).remove();
        }
        if (isBranch(i)) {
            return sendOutcomeOf(1, i, Check.A, outcome(i, seen));
        }
        if (i[0] == Check.OUT) {
            written.add(seen[i[1]]);
        } else {
            reckon(i, seen);
            r[i[1]] = seen[i[1]];
        }
        go(1, at[1] + 1);
        return MOVED;
    }

    private int giveStored(int value) {
        for (Store s : list) {
            if (s.value == null) {
                s.value = value;
                go(1, at[1] + 1);
                return MOVED;
            }
        }
        if (queues.get(Check.S).size() == 4) {
            return WAITS;
        }
        queues.get(Check.S).add(value);
        go(1, at[1] + 1);
        return MOVED;
    }

    private int sendOutcome(int stream, int[] i, int q) {
        return sendOutcomeOf(stream, i, q, outcome(i, registers[stream]));
    }

    private int sendOutcomeOf(int stream, int[] i, int q, boolean outcome) {
        if (queues.get(q).size() == 4) {
            return WAITS;
        }
        queues.get(q).add(outcome ? 1 : 0);
        go(stream, outcome ? i[3] : at[stream] + 1);
        return MOVED;
    }

    private int takeOutcome(int stream, int[] i, int q) {
        if (queues.get(q).isEmpty()) {
            return WAITS;
        }
        go(stream, queues.get(q).remove() == 1 ? i[3] : at[stream] + 1);
        return MOVED;
    }
}
