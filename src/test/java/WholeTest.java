/** 'What it is', and what holds of the whole: all the calls of an object, many objects, any slip. */
public final class WholeTest extends Edges {
    /** All kinds, all queues and the list, in five rounds that go by different ways with fill(-7, 2). */
    private static final int[][] ALL_KINDS = {
        set(0, 3), set(1, 1), load(2, 0, 0), add(3, 3, 2), mul(4, 3, 0), store(4, 0, 12), store(0, 0, 20),
        load(5, 0, 12), out(5), load(6, 0, 20), load(7, 6, 1), differ(7, 0, 13), out(0), less(3, 2, 15),
        sub(3, 3, 1), add(0, 0, 1), set(6, 8), less(0, 6, 2), out(3)};

    public static void main(String[] args) {
        fiveHundredAndTwelveCalls();
        waitingAndEndedForAllCalls();
        thePlainRunOfAllKinds();
        howeverTheySlip();
        oneStreamAsFarAsItComes();
        objectsAreApart();
        theSameCallsAnswerTheSame();
        CHECK.end();
    }

    /** 'at most 512 calls': all of them, 500 as long as they can be, and 'all counted' (18) of far more than 64. */
    private static void fiveHundredAndTwelveCalls() {
        SlippedStreams x = with(set(2, 1), add(1, 1, 2), out(1), differ(1, 3, 1));
        for (int i = 0; i < 250; i++) {
            due("plain " + i, x.plain(50), 50);
            due("both " + i, x.both(50), 50 + outcomesTaken(50 * i + 50) - outcomesTaken(50 * i));
        }
        due("plain outputs of 12500", x.outputs(true), 4166);
        due("outputs of 12500", x.outputs(false), 4166);
        due("losses, but for 4166 outcomes", x.losses(), 12500 - 4166);
        due("slip of 12501 and 12500", x.slip(), 1);
        due("the last thing kept", x.output(63, true), 64);
        due("the first thing not kept", x.output(64, false), 0);
        due("r1", x.register(1, false), 4167);
        due("the 512th call", x.register(1, true), 4167);
    }

    /** The first outcome comes in turn 4, so it is taken in turn 5, and then one each third turn. */
    private static int outcomesTaken(int turns) {
        return turns < 5 ? 0 : (turns - 5) / 3 + 1;
    }

    /** Calls end where a stream waits for what never comes, and where it has ended. */
    private static void waitingAndEndedForAllCalls() {
        SlippedStreams x = with(less(1, 2, 0), load(3, 0, 0));
        for (int i = 1; i <= 500; i++) {
            due("waits " + i, x.address(50), 0);
        }
        due("500 losses", x.losses(), 500);
        SlippedStreams y = with(differ(0, 1, 0), load(3, 0, 0), load(3, 1, 0));
        due("to its end, with nothing taken", y.address(50), 3);
        for (int i = 1; i <= 500; i++) {
            due("has ended " + i, y.address(50), 0);
        }
        due("no losses", y.losses(), 0);
        due("slip of all and none", y.slip(), 3);
    }

    private static void dueLikeThePlainRun(String what, SlippedStreams x) {
        for (int left = 150; left > 0; left -= 50) {
            x.plain(50);
        }
        for (int run = 0; run < 3; run++) {
            due(what + ": has ended, run " + run, x.place(run), ALL_KINDS.length);
        }
        due(what + ": slip", x.slip(), 0);
        for (int q = 0; q <= 5; q++) {
            due(what + ": nothing is left in queue " + q, x.queue(q), 0);
        }
        due(what + ": outputs", x.outputs(false), x.outputs(true));
        for (int i = 0; i < 12; i++) {
            due(what + ": output " + i, x.output(i, false), x.output(i, true));
        }
        for (int r = 0; r < 8; r++) {
            due(what + ": register " + r, x.register(r, false), x.register(r, true));
        }
        for (int i = 0; i < 32; i++) {
            due(what + ": word " + i, x.peek(i, false), x.peek(i, true));
        }
    }

    /** 'may slip against one another as the caller likes': the end is the plain run's in every way. */
    private static void howeverTheySlip() {
        int[] counts = {1, 2, 3, 5, 9, 50};
        for (int a : counts) {
            for (int v : counts) {
                SlippedStreams x = with(ALL_KINDS);
                x.fill(-7, 2);
                for (int turn = 0; turn < 120; turn++) {
                    x.address(a);
                    x.value(v);
                }
                dueLikeThePlainRun("address " + a + ", value " + v, x);
                SlippedStreams y = with(ALL_KINDS);
                y.fill(-7, 2);
                for (int turn = 0; turn < 60; turn++) {
                    y.value(v);
                    y.both(1);
                    y.address(a);
                }
                dueLikeThePlainRun("value " + v + ", both, address " + a, y);
            }
        }
    }

    /** What the plain run comes to, reckoned by hand. */
    private static void thePlainRunOfAllKinds() {
        SlippedStreams x = with(ALL_KINDS);
        x.fill(-7, 2);
        due("instructions", x.plain(50) + x.plain(50), 77);
        int[] want = {-3, -4, 10, 5, 42, 91, 12};
        due("outputs", x.outputs(true), want.length);
        for (int i = 0; i < want.length; i++) {
            due("output " + i, x.output(i, true), want[i]);
        }
    }

    /** The other stream stays where it is, and so does the plain run, whatever one of them does. */
    private static void oneStreamAsFarAsItComes() {
        SlippedStreams x = with(ALL_KINDS);
        x.fill(-7, 2);
        due("address: up to the LOAD of a word that is to be stored", x.address(50), 2 + 1 + 1 + 2);
        due("address: where", x.place(0), 7);
        due("value: at its LOAD", x.place(1), 2);
        due("value: up to that LOAD", x.value(50), 1 + 1 + 1 + 1);
        due("value: where", x.place(1), 7);
        due("level", x.slip(), 0);
        due("the plain run has not moved", x.place(2), 0);
        due("the plain memory neither", x.peek(15, true), -7 + 2 * 15);
        due("the word is stored", x.peek(15, false), -1 * 3);
        due("and the one behind it", x.peek(23, false), 3);
    }

    /** No object has to do with another one: three are made, run and looked at by turns, and each alone. */
    private static void objectsAreApart() {
        SlippedStreams[] together = {new SlippedStreams(), new SlippedStreams(), new SlippedStreams()};
        for (int turn = 0; turn < ALL_KINDS.length + 20; turn++) {
            for (int i = 0; i < together.length; i++) {
                move(together[i], turn, i);
            }
        }
        int[][] got = {seen(together[0]), seen(together[1]), seen(together[2])};
        for (int i = 0; i < together.length; i++) {
            SlippedStreams alone = new SlippedStreams();
            for (int turn = 0; turn < ALL_KINDS.length + 20; turn++) {
                move(alone, turn, i);
            }
            int[] want = seen(alone);
            for (int look = 0; look < want.length; look++) {
                due("object " + i + ", look " + look, got[i][look], want[look]);
            }
        }
    }

    /** Object 1 has the program turned round; each one has words of its own, and moves in its own way. */
    private static void move(SlippedStreams x, int turn, int i) {
        if (turn < ALL_KINDS.length) {
            CHECK.addAll(x, ALL_KINDS[i == 1 ? ALL_KINDS.length - 1 - turn : turn]);
            return;
        }
        if (turn == ALL_KINDS.length) {
            x.fill(2 + i, 1 + i);
        }
        x.address(1 + (turn + i) % 3);
        x.value(1 + turn * (i + 1) % 4);
        x.plain(1 + i);
    }

    /** Looking changes nothing, as often as it is done. */
    private static void theSameCallsAnswerTheSame() {
        SlippedStreams x = with(ALL_KINDS);
        x.address(5);
        x.value(2);
        x.plain(7);
        int[] first = seen(x);
        int[] second = seen(x);
        for (int i = 0; i < first.length; i++) {
            due("look " + i + " again", second[i], first[i]);
        }
        SlippedStreams twin = with(ALL_KINDS);
        twin.address(5);
        twin.value(2);
        twin.plain(7);
        due("both goes on alike", x.both(9), twin.both(9));
        dueSame("looked at before", x, twin);
    }
}
