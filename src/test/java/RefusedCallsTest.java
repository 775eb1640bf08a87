import java.util.ArrayList;
import java.util.List;

/**
 * Each wrong argument of each call, with the answer that the document gives it, in many states; and
 * a refused call changes nothing: the pair goes on as its twin does, on which it was not made.
 */
public final class RefusedCallsTest {
    private static final Due DUE = new Due();
    private static final int NONE = RollbackPair.NONE;
    private static final int STATES = 6;
    private static final int[] NO_INPUT = {
        -1, 8, 9, 256, 65536, Integer.MIN_VALUE, Integer.MIN_VALUE + 1, Integer.MAX_VALUE};
    private static final int[] NO_HOW = {
        -1, 3, 4, 256, 65536, Integer.MIN_VALUE, Integer.MAX_VALUE};
    private static final int[] NO_PART = {
        -1, 7, 8, 256, 65536, Integer.MIN_VALUE, Integer.MAX_VALUE};
    private static final int[] NO_WHAT = {
        -1, 6, 7, 256, 65536, Integer.MIN_VALUE, Integer.MAX_VALUE};

    public static void main(String[] args) {
        for (int state = 0; state < STATES; state++) {
            testAdvance(state);
            testDeliverAndAlter(state);
            testSpoil(state);
            testNumbersAsked(state);
            testGameAsked(state);
        }
        DUE.end();
    }

    private static RollbackPair inState(int state) {
        switch (state) {
            case 0:
                return new RollbackPair(2, 3, 100);
            case 1:
                return playing(0);
            case 2:
                return playing(3);
            case 3: {
                RollbackPair full = new RollbackPair(4, 8, -5);
                Play.advanceTimes(full, 0, 2, 12);
                Play.advanceTimes(full, 1, 1, 12);
                return full;
            }
            case 4:
                return Play.alone(0, 2);
            default:
                return Play.alone(1, 1);
        }
    }

    /** Both peers at frame 4 or 5 with packets on their way, peer 0 then with some stalls. */
    private static RollbackPair playing(int stalls) {
        RollbackPair x = new RollbackPair(1, 2, 32766);
        for (int i = 0; i < 3; i++) {
            Play.frame(x, 2 + i, 6 - i);
        }
        x.advance(1, 3);
        x.advance(1, 5);
        Play.advanceTimes(x, 0, 7, 2 + stalls);
        return x;
    }

    /** All that a pair tells of itself. */
    private static List<Double> view(RollbackPair x) {
        List<Double> all = new ArrayList<>();
        for (int peer = 0; peer < 2; peer++) {
            for (int what = 0; what < 6; what++) {
                all.add((double) x.about(peer, what));
            }
            int at = x.about(peer, 0);
            all.add((double) x.sum(peer, at));
            all.add((double) x.sum(peer, at - 1));
            for (int player = 0; player < 2; player++) {
                all.add((double) x.known(peer, player));
                all.add((double) x.used(peer, player, at - 1));
                all.add((double) x.place(peer, player));
                all.add((double) x.speed(peer, player));
            }
            all.add((double) x.hits(peer));
            all.add(x.work(peer));
            all.add((double) x.advice(peer));
        }
        return all;
    }

    /** What is in the rows shows when it arrives. */
    private static void goesOnAsItsTwin(String what, RollbackPair x, int state) {
        RollbackPair twin = inState(state);
        DUE.same(what + ": nothing changed", view(x).equals(view(twin)), true);
        for (int i = 0; i < 26; i++) {
            int peer = i % 2;
            DUE.same(what + ": deliver", x.deliver(peer), twin.deliver(peer));
        }
        for (int peer = 0; peer < 2; peer++) {
            DUE.same(what + ": advance", x.advance(peer, 6), twin.advance(peer, 6));
            int other = 1 - peer;
            DUE.same(what + ": its packet", x.deliver(other), twin.deliver(other));
        }
        DUE.same(what + ": nor later", view(x).equals(view(twin)), true);
    }

    private static void testAdvance(int state) {
        RollbackPair x = inState(state);
        for (int wrong : Play.NO_PEER) {
            DUE.same("advance, peer " + wrong, x.advance(wrong, 2), -2);
            DUE.same("advance, neither, peer " + wrong, x.advance(wrong, 8), -2);
        }
        for (int wrong : NO_INPUT) {
            DUE.same("advance 0, input " + wrong, x.advance(0, wrong), -2);
            DUE.same("advance 1, input " + wrong, x.advance(1, wrong), -2);
        }
        goesOnAsItsTwin("advance in state " + state, x, state);
        for (int input = 0; input < 8; input++) {
            RollbackPair y = new RollbackPair(0, 8, 0);
            DUE.same("advance, input " + input, y.advance(0, input), 0);
            DUE.same("used, input " + input, y.used(0, 0, 0), input);
        }
    }

    private static void testDeliverAndAlter(int state) {
        RollbackPair x = inState(state);
        for (int wrong : Play.NO_PEER) {
            DUE.same("deliver, peer " + wrong, x.deliver(wrong), NONE);
            for (int how = 0; how < 3; how++) {
                DUE.same("alter, peer " + wrong, x.alter(wrong, how), false);
            }
        }
        for (int wrong : NO_HOW) {
            DUE.same("alter 0, how " + wrong, x.alter(0, wrong), false);
            DUE.same("alter 1, how " + wrong, x.alter(1, wrong), false);
        }
        for (int peer = 0; peer < 2; peer++) {
            if (x.about(peer, 4) == 12) {
                DUE.same("alter, no room", x.alter(peer, 1), false);
            }
        }
        goesOnAsItsTwin("deliver and alter in state " + state, x, state);
    }

    private static void testSpoil(int state) {
        RollbackPair x = inState(state);
        for (int wrong : Play.NO_PEER) {
            for (int part = 0; part < 7; part++) {
                DUE.same("spoil, peer " + wrong, x.spoil(wrong, part, -1), false);
            }
        }
        for (int wrong : NO_PART) {
            DUE.same("spoil 0, part " + wrong, x.spoil(0, wrong, -1), false);
            DUE.same("spoil 1, part " + wrong, x.spoil(1, wrong, -1), false);
        }
        goesOnAsItsTwin("spoil in state " + state, x, state);
    }

    private static void testNumbersAsked(int state) {
        RollbackPair x = inState(state);
        for (int wrong : Play.NO_PEER) {
            for (int what = 0; what < 6; what++) {
                DUE.same("about, peer " + wrong, x.about(wrong, what), NONE);
            }
            for (int right = 0; right < 2; right++) {
                DUE.same("known, peer " + wrong, x.known(wrong, right), NONE);
                DUE.same("known, player " + wrong, x.known(right, wrong), NONE);
                DUE.same("used, peer " + wrong, x.used(wrong, right, 0), NONE);
                DUE.same("used, player " + wrong, x.used(right, wrong, 0), NONE);
            }
            DUE.same("sum, peer " + wrong, x.sum(wrong, 0), 0);
        }
        for (int wrong : NO_WHAT) {
            DUE.same("about 0, what " + wrong, x.about(0, wrong), NONE);
            DUE.same("about 1, what " + wrong, x.about(1, wrong), NONE);
        }
        goesOnAsItsTwin("numbers asked in state " + state, x, state);
    }

    private static void testGameAsked(int state) {
        RollbackPair x = inState(state);
        for (int wrong : Play.NO_PEER) {
            for (int right = 0; right < 2; right++) {
                DUE.same("place, peer " + wrong, x.place(wrong, right), -100.0);
                DUE.same("place, player " + wrong, x.place(right, wrong), -100.0);
                DUE.same("speed, peer " + wrong, x.speed(wrong, right), 0.0);
                DUE.same("speed, player " + wrong, x.speed(right, wrong), 0.0);
            }
            DUE.same("hits, peer " + wrong, x.hits(wrong), NONE);
            DUE.same("work, peer " + wrong, x.work(wrong), -1.0);
            DUE.same("advice, peer " + wrong, x.advice(wrong), 0.0);
        }
        goesOnAsItsTwin("game asked in state " + state, x, state);
    }
}
