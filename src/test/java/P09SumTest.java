/** Promise 9: sum. */
public final class P09SumTest {
    private static final Due DUE = new Due();

    public static void main(String[] args) {
        testWrongArguments();
        testSumOfAState();
        testSumWithHits();
        testFifteenBack();
        testStatesPlayedAgain();
        testSameAtBoth();
        DUE.end();
    }

    private static int sumNow(RollbackPair x, int peer) {
        int h = 17;
        for (int player = 0; player < 2; player++) {
            h = h * 31 + (int) (x.place(peer, player) * 4096f);
            h = h * 31 + (int) (x.speed(peer, player) * 4096f);
        }
        h = h * 31 + x.hits(peer);
        return h * 31 + (int) (x.work(peer) * 64.0);
    }

    private static void testWrongArguments() {
        RollbackPair x = new RollbackPair(0, 8, 0);
        x.advance(0, 3);
        int[] wrong = {-1, 2, Integer.MIN_VALUE, Integer.MAX_VALUE};
        for (int one : wrong) {
            DUE.same("no such peer", x.sum(one, 0), 0);
            DUE.same("no such frame", x.sum(0, one), 0);
        }
        DUE.same("not yet there", x.sum(1, 1), 0);
    }

    private static void testSumOfAState() {
        RollbackPair x = new RollbackPair(0, 8, 0);
        int h = 17;
        h = h * 31 + 8 * 4096;
        h = h * 31;
        h = h * 31 + 24 * 4096;
        h = h * 31;
        h = h * 31;
        h = h * 31;
        DUE.same("the first state", x.sum(0, 0), h);
        for (int i = 0; i < 8; i++) {
            x.advance(1, 1);
            DUE.same("state " + i, x.sum(1, i + 1), sumNow(x, 1));
        }
        DUE.same("the first one is kept", x.sum(1, 0), h);
    }

    private static void testSumWithHits() {
        RollbackPair x = P10PlaceTest.alone(0);
        for (int i = 1; i < 40; i++) {
            x.advance(0, 2);
            DUE.same("state " + i, x.sum(0, i + 1), sumNow(x, 0));
        }
        DUE.same("there were hits", x.hits(0) > 1, true);
    }

    private static void testFifteenBack() {
        RollbackPair x = new RollbackPair(0, 1, 0);
        for (int i = 0; i < 13; i++) {
            x.advance(0, 2);
        }
        int[] sums = new int[80];
        sums[0] = x.sum(0, 0);
        for (int at = 1; at < 60; at++) {
            sums[at] = sumNow(x, 0);
            for (int frame = -3; frame < at + 20; frame++) {
                boolean there = frame >= 0 && frame <= at && frame >= at - 15;
                DUE.same("at " + at + " frame " + frame, x.sum(0, frame), there ? sums[frame] : 0);
            }
            x.advance(0, at % 8);
        }
    }

    private static void testStatesPlayedAgain() {
        RollbackPair x = new RollbackPair(0, 8, 0);
        RollbackPair y = new RollbackPair(0, 8, 0);
        y.advance(1, 5);
        y.deliver(0);
        for (int i = 0; i < 6; i++) {
            x.advance(0, 2);
            y.advance(0, 2);
        }
        DUE.same("differ by the guess", x.sum(0, 4) == y.sum(0, 4), false);
        x.advance(1, 5);
        DUE.same("all again", x.deliver(0), 6);
        for (int i = 0; i <= 6; i++) {
            DUE.same("as if it had been known, " + i, x.sum(0, i), y.sum(0, i));
        }
    }

    private static void testSameAtBoth() {
        RollbackPair x = new RollbackPair(1, 6, 0);
        for (int round = 0; round < 60; round++) {
            x.advance(0, round * 5 % 8);
            x.advance(1, (round * 3 + 1) % 8);
            if (round % 4 == 3) {
                x.alter(0, round % 3);
                x.alter(1, (round + 1) % 3);
            }
            if (round % 3 == 2) {
                for (int i = 0; i < 3; i++) {
                    x.deliver(0);
                    x.deliver(1);
                }
            }
            int sure = Math.min(x.about(0, 1), x.about(1, 1));
            DUE.same("confirmed sum in round " + round, x.sum(0, sure), x.sum(1, sure));
        }
        DUE.same("they went on", x.about(0, 1) > 40, true);
    }
}
