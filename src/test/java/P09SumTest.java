import java.math.BigInteger;

/** Promise 9: sum. */
public final class P09SumTest {
    private static final Due DUE = new Due();

    public static void main(String[] args) {
        testWrongArguments();
        testSumOfAState();
        testSumWithHits();
        testSumWraps();
        testCastOfNegativeParts();
        testWorkIsCastAsADouble();
        testFifteenBack();
        testStatesPlayedAgain();
        testSameAtBoth();
        DUE.end();
    }

    private static int sumNow(RollbackPair x, int peer) {
        int h = 17;
        for (int player = 0; player < 2; player++) {
            h = h * 31 + (int) (x.place(peer, player) * 4096f);
            h = h * 31 + (int) (x.speed(peer, player) * 4096f);
        }
        h = h * 31 + x.hits(peer);
        return h * 31 + (int) (x.work(peer) * 64.0);
    }

    private static void testWrongArguments() {
        RollbackPair x = new RollbackPair(0, 8, 0);
        x.advance(0, 3);
        int[] wrong = Play.NO_PEER;
        for (int one : wrong) {
            DUE.same("no such peer", x.sum(one, 0), 0);
            DUE.same("no such frame", x.sum(0, one), 0);
        }
        DUE.same("not yet there", x.sum(1, 1), 0);
    }

    private static void testSumOfAState() {
        RollbackPair x = new RollbackPair(0, 8, 0);
        int h = 17;
        h = h * 31 + 8 * 4096;
        h = h * 31;
        h = h * 31 + 24 * 4096;
        h = h * 31;
        h = h * 31;
        h = h * 31;
        DUE.same("the first state", x.sum(0, 0), h);
        for (int i = 0; i < 8; i++) {
            x.advance(1, 1);
            DUE.same("state " + i, x.sum(1, i + 1), sumNow(x, 1));
        }
        DUE.same("the first one is kept", x.sum(1, 0), h);
    }

    private static void testSumWithHits() {
        RollbackPair x = Play.alone(0);
        for (int i = 1; i < 40; i++) {
            x.advance(0, 2);
            DUE.same("state " + i, x.sum(0, i + 1), sumNow(x, 0));
        }
        DUE.same("there were hits", x.hits(0) > 1, true);
    }

    /** The sum without wrapping, of which an int holds the lowest 32 bits. */
    private static BigInteger wholeSum(long... parts) {
        BigInteger h = BigInteger.valueOf(17);
        for (long part : parts) {
            h = h.multiply(BigInteger.valueOf(31)).add(BigInteger.valueOf(part));
        }
        return h;
    }

    private static void testSumWraps() {
        RollbackPair x = new RollbackPair(0, 8, 0);
        BigInteger first = wholeSum(8 * 4096, 0, 24 * 4096, 0, 0, 0);
        DUE.same("more than an int holds", first.bitLength() > 32, true);
        DUE.same("its lowest 32 bits", x.sum(0, 0), first.intValue());
        boolean negative = false;
        for (int i = 1; i <= 8; i++) {
            x.advance(0, 2);
            long place = (long) (x.place(0, 0) * 4096f);
            long speed = (long) (x.speed(0, 0) * 4096f);
            long work = (long) (x.work(0) * 64.0);
            BigInteger whole = wholeSum(place, speed, 24 * 4096, 0, 0, work);
            DUE.same("state " + i, x.sum(0, i), whole.intValue());
            negative = negative || x.sum(0, i) < 0;
        }
        DUE.same("some sum is below 0", negative, true);
    }

    /** A cast to an int goes towards 0: -1228.8 is -1228, and so with a place below 0. */
    private static void testCastOfNegativeParts() {
        RollbackPair x = new RollbackPair(0, 8, 0);
        x.advance(0, 1);
        int place = (int) ((8f + -0.3f) * 4096f);
        BigInteger whole = wholeSum(place, -1228, 24 * 4096, 0, 0, 5);
        DUE.same("a speed below 0", x.sum(0, 1), whole.intValue());

        RollbackPair y = new RollbackPair(0, 8, 0);
        for (int i = 0; i < 16; i++) {
            Play.frame(y, i == 15 ? 7 : 1, 1);
        }
        float below = y.place(0, 0) * 4096f;
        DUE.same("between two whole numbers below 0", below < 0f && below != (int) below, true);
        int truncated = -(int) -below;
        whole = wholeSum(truncated, (int) (y.speed(0, 0) * 4096f), (int) (y.place(0, 1) * 4096f),
            (int) (y.speed(0, 1) * 4096f), y.hits(0), (int) (y.work(0) * 64.0));
        DUE.same("a place below 0", y.sum(0, 16), whole.intValue());
        DUE.same("at the other too", y.sum(1, 16), whole.intValue());
    }

    /** Work times 64 is just below 243 here, where a float would be 243. */
    private static void testWorkIsCastAsADouble() {
        RollbackPair x = new RollbackPair(0, 8, 0);
        int[] inputs0 = {1, 5, 7, 1, 1, 1};
        int[] inputs1 = {1, 2, 2, 2, 2, 2};
        for (int i = 0; i < 6; i++) {
            Play.frame(x, inputs0[i], inputs1[i]);
        }
        DUE.same("just below 243", x.work(0) * 64.0 < 243.0, true);
        DUE.same("243 as a float", (float) x.work(0) * 64f, 243.0);
        BigInteger whole = wholeSum((int) (x.place(0, 0) * 4096f), (int) (x.speed(0, 0) * 4096f),
            (int) (x.place(0, 1) * 4096f), (int) (x.speed(0, 1) * 4096f), 0, 242);
        DUE.same("242 in the sum", x.sum(0, 6), whole.intValue());
    }

    /** A new object for each frame to be at, since an object is good for 512 calls alone. */
    private static void testFifteenBack() {
        int[] sums = new int[41];
        for (int at = 1; at <= 40; at++) {
            RollbackPair x = Play.alone(0, 2);
            sums[0] = new RollbackPair(0, 1, 0).sum(0, 0);
            for (int i = 1; i < at; i++) {
                x.advance(0, i % 7);
            }
            sums[at] = sumNow(x, 0);
            for (int frame = -3; frame < at + 20; frame++) {
                boolean there = frame >= 0 && frame <= at && frame >= at - 15;
                DUE.same("at " + at + " frame " + frame, x.sum(0, frame), there ? sums[frame] : 0);
                int first = frame == 0 ? sums[0] : 0;
                DUE.same("at the other, frame " + frame, x.sum(1, frame), first);
            }
            int[] far = {at - 65536, at + 65536, Integer.MIN_VALUE, Integer.MIN_VALUE + at,
                Integer.MAX_VALUE};
            for (int frame : far) {
                DUE.same("far " + frame, x.sum(0, frame), 0);
            }
        }
    }

    private static void testStatesPlayedAgain() {
        RollbackPair x = new RollbackPair(0, 8, 0);
        RollbackPair y = new RollbackPair(0, 8, 0);
        y.advance(1, 5);
        y.deliver(0);
        for (int i = 0; i < 6; i++) {
            x.advance(0, 2);
            y.advance(0, 2);
        }
        DUE.same("differ by the guess", x.sum(0, 4) == y.sum(0, 4), false);
        x.advance(1, 5);
        DUE.same("all again", x.deliver(0), 6);
        for (int i = 0; i <= 6; i++) {
            DUE.same("as if it had been known, " + i, x.sum(0, i), y.sum(0, i));
        }
    }

    private static void testSameAtBoth() {
        RollbackPair x = new RollbackPair(1, 6, 0);
        for (int round = 0; round < 50; round++) {
            x.advance(0, round * 5 % 8);
            x.advance(1, (round * 3 + 1) % 8);
            if (round % 4 == 3) {
                x.alter(0, round % 3);
                x.alter(1, (round + 1) % 3);
            }
            if (round % 3 == 2) {
                for (int i = 0; i < 3; i++) {
                    x.deliver(0);
                    x.deliver(1);
                }
            }
            int sure = Math.min(x.about(0, 1), x.about(1, 1));
            DUE.same("confirmed sum in round " + round, x.sum(0, sure), x.sum(1, sure));
        }
        DUE.same("they went on", x.about(0, 1) > 30, true);
    }
}
