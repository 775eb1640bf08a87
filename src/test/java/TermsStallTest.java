/** Terms: stalling at WINDOW, being cut off by 12 stalls, and what is known for ever from then on. */
public final class TermsStallTest {
    private static final Due DUE = new Due();
    private static final int NONE = RollbackPair.NONE;

    public static void main(String[] args) {
        testWindowLessOneWindow();
        testOneMoreKnownIsOneMoreFrame();
        testKnownAheadNeverStalls();
        testElevenTwelveThirteen();
        testTakenPacketWithoutInputsEndsTheStalls();
        testDroppedPacketsLeaveTheStalls();
        testCutOffPlaysAgainAWholeWindow();
        testCutOffFromTheFirstOtherInputOn();
        testCutOffWhereNothingWasGuessedWrong();
        testCutOffAtWhatIsKnown();
        testZeroForEver();
        testAllIsDroppedAfterACutOff();
        testBothCutOff();
        DUE.end();
    }

    private static void stall(RollbackPair x, int peer, int times) {
        for (int i = 0; i < times; i++) {
            DUE.same("stall", x.advance(peer, 7), NONE);
        }
    }

    /** A pair whose peer 0 has played all frames that it can without a packet. */
    private static RollbackPair ready(int delay, int window, int input) {
        RollbackPair x = new RollbackPair(delay, window, 0);
        for (int frame = 0; frame < window + delay; frame++) {
            DUE.same("frame before the stalls", x.advance(0, input), frame);
        }
        return x;
    }

    private static void testWindowLessOneWindow() {
        for (int window = 1; window <= 8; window++) {
            for (int delay = 0; delay <= 4; delay++) {
                RollbackPair x = new RollbackPair(delay, window, 0);
                Play.advanceTimes(x, 0, 0, window + delay - 1);
                String which = "window " + window + ", delay " + delay;
                DUE.same(which + ": one less", x.advance(0, 0), window + delay - 1);
                DUE.same(which + ": not stalled", x.about(0, 2), 0);
                DUE.same(which + ": as many", x.advance(0, 0), NONE);
                DUE.same(which + ": stalled", x.about(0, 2), 1);
            }
        }
    }

    private static void testOneMoreKnownIsOneMoreFrame() {
        for (int window = 1; window <= 8; window++) {
            RollbackPair x = ready(0, window, 0);
            stall(x, 0, 1);
            for (int i = 0; i < 4; i++) {
                DUE.same("the other one", x.advance(1, 0), i);
                DUE.same("its packet", x.deliver(0), 0);
                x.deliver(1);
                DUE.same("one more", x.advance(0, 0), window + i);
                x.deliver(1);
                DUE.same("and no other", x.advance(0, 0), NONE);
            }
        }
    }

    private static void testKnownAheadNeverStalls() {
        RollbackPair x = new RollbackPair(0, 1, 0);
        x.advance(1, 0);
        Parts.forgeFirst(x, 0, new Parts(0, 1, 0, 0, 16, 0L));
        x.deliver(0);
        for (int frame = 0; frame < 17; frame++) {
            DUE.same("known, or one beyond", x.advance(0, 0), frame);
        }
        DUE.same("two beyond", x.advance(0, 0), NONE);
    }

    private static void testElevenTwelveThirteen() {
        for (int peer = 0; peer < 2; peer++) {
            RollbackPair x = new RollbackPair(0, 1, 0);
            x.advance(peer, 0);
            for (int times = 1; times <= 12; times++) {
                DUE.same("not cut off before " + times, x.about(peer, 3), NONE);
                DUE.same("stall " + times, x.advance(peer, 0), NONE);
                DUE.same("stalls", x.about(peer, 2), times);
            }
            DUE.same("cut off by the twelfth", x.about(peer, 3), 0);
            DUE.same("the thirteenth goes on", x.advance(peer, 0), 1);
            DUE.same("and is no stall", x.about(peer, 2), 12);
            DUE.same("the other one has cut off none", x.about(1 - peer, 3), NONE);
        }
    }

    private static void testTakenPacketWithoutInputsEndsTheStalls() {
        RollbackPair x = ready(0, 3, 0);
        stall(x, 0, 11);
        x.advance(1, 0);
        Parts.forgeFirst(x, 0, new Parts(0, 1, 0, 0, 0, 0L));
        DUE.same("taken", x.deliver(0), 0);
        DUE.same("nothing known by it", x.known(0, 1), 0);
        DUE.same("not stalled", x.about(0, 2), 0);
        stall(x, 0, 11);
        DUE.same("eleven anew", x.about(0, 2), 11);
        DUE.same("not cut off", x.about(0, 3), NONE);
        stall(x, 0, 1);
        DUE.same("twelve anew", x.about(0, 2), 12);
        DUE.same("cut off", x.about(0, 3), 0);
    }

    private static void testDroppedPacketsLeaveTheStalls() {
        RollbackPair x = ready(0, 3, 0);
        x.advance(1, 0);
        x.alter(0, 1);
        x.deliver(0);
        x.advance(0, 0);
        stall(x, 0, 10);
        DUE.same("a copy", x.deliver(0), -2);
        DUE.same("leaves them", x.about(0, 2), 10);
        x.advance(1, 0);
        x.spoil(0, 6, 1);
        DUE.same("a spoilt one", x.deliver(0), -2);
        DUE.same("leaves them too", x.about(0, 2), 10);
        stall(x, 0, 1);
        DUE.same("eleven", x.about(0, 3), NONE);
        stall(x, 0, 1);
        DUE.same("twelve", x.about(0, 3), 1);
    }

    private static float speedAfter(int pushed, int all) {
        float speed = 0f;
        for (int i = 0; i < all; i++) {
            speed = speed * 0.875f + (i < pushed ? -0.3f : 0f);
        }
        return speed;
    }

    private static void testCutOffPlaysAgainAWholeWindow() {
        for (int window = 1; window <= 8; window++) {
            RollbackPair x = new RollbackPair(0, window, 0);
            x.advance(1, 1);
            x.deliver(0);
            Play.advanceTimes(x, 0, 0, window + 1);
            DUE.same("the guess", x.speed(0, 1), speedAfter(window + 1, window + 1));
            stall(x, 0, 11);
            DUE.same("still the guess", x.used(0, 1, 1), 1);
            stall(x, 0, 1);
            DUE.same("what is known stays", x.used(0, 1, 0), 1);
            for (int frame = 1; frame <= window; frame++) {
                DUE.same("0 from there on", x.used(0, 1, frame), 0);
            }
            DUE.same("played again", x.speed(0, 1), speedAfter(1, window + 1));
        }
    }

    /** Only a known input that is not 0 can have been guessed; the frames before it stay as known. */
    private static void testCutOffFromTheFirstOtherInputOn() {
        RollbackPair x = new RollbackPair(0, 4, 0);
        int[] inputs = {0, 5, 0, 2};
        for (int input : inputs) {
            x.advance(1, input);
            x.deliver(0);
        }
        Play.advanceTimes(x, 0, 0, 8);
        int before = x.sum(0, 4);
        int after = x.sum(0, 5);
        stall(x, 0, 12);
        int[] due = {0, 5, 0, 2, 0, 0, 0, 0};
        for (int frame = 0; frame < 8; frame++) {
            DUE.same("frame " + frame, x.used(0, 1, frame), due[frame]);
        }
        DUE.same("the state before is kept", x.sum(0, 4), before);
        DUE.same("the one after is another", x.sum(0, 5) != after, true);
    }

    private static void testCutOffWhereNothingWasGuessedWrong() {
        RollbackPair x = ready(2, 5, 6);
        int[] sums = new int[8];
        for (int frame = 0; frame < 8; frame++) {
            sums[frame] = x.sum(0, frame);
        }
        stall(x, 0, 12);
        DUE.same("cut off", x.about(0, 3), 2);
        for (int frame = 0; frame < 8; frame++) {
            DUE.same("state " + frame + " stays", x.sum(0, frame), sums[frame]);
        }
        DUE.same("row stays", x.about(1, 4), 7);
        DUE.same("own inputs stay", x.known(0, 0), 9);
    }

    private static void testCutOffAtWhatIsKnown() {
        for (int known = 0; known <= 3; known++) {
            RollbackPair x = new RollbackPair(0, 2, 0);
            Play.advanceTimes(x, 1, 3, known);
            for (int i = 0; i < known; i++) {
                x.deliver(0);
            }
            int could = x.known(0, 1);
            Play.advanceTimes(x, 0, 0, could + 2);
            stall(x, 0, 12);
            DUE.same("cut off at", x.about(0, 3), Math.min(2, known));
            DUE.same("known", x.known(0, 1), Math.min(2, known));
            DUE.same("all confirmed", x.about(0, 1), could + 2);
        }
    }

    private static void testZeroForEver() {
        RollbackPair x = new RollbackPair(0, 1, 0);
        x.advance(1, 7);
        x.deliver(0);
        Play.advanceTimes(x, 0, 2, 2);
        stall(x, 0, 12);
        for (int frame = 2; frame < 100; frame++) {
            DUE.same("goes on", x.advance(0, 2), frame);
            DUE.same("with 0", x.used(0, 1, frame), 0);
            DUE.same("all confirmed", x.about(0, 1), frame + 1);
        }
        DUE.same("cut off at 1", x.about(0, 3), 1);
        DUE.same("known", x.known(0, 1), 1);
        DUE.same("stalls", x.about(0, 2), 12);
    }

    private static void testAllIsDroppedAfterACutOff() {
        RollbackPair x = new RollbackPair(0, 2, 0);
        Play.advanceTimes(x, 0, 2, 2);
        stall(x, 0, 12);
        x.deliver(1);
        x.deliver(1);
        Play.advanceTimes(x, 1, 5, 3);
        int sum = x.sum(0, 2);
        for (int i = 0; i < 3; i++) {
            DUE.same("dropped", x.deliver(0), -2);
        }
        DUE.same("and gone", x.about(0, 4), 0);
        DUE.same("known", x.known(0, 1), 0);
        DUE.same("told", x.about(0, 5), 0);
        DUE.same("stalls", x.about(0, 2), 12);
        DUE.same("cut off at", x.about(0, 3), 0);
        DUE.same("advice", x.advice(0), 0.0);
        DUE.same("sum", x.sum(0, 2), sum);
        x.advance(0, 4);
        long bits = 2L | 2L << 3 | 4L << 6;
        DUE.same("it sends all since then", new Parts(2, 3, 0, 0, 3, bits).arrives(x, 1), true);
    }

    private static void testBothCutOff() {
        RollbackPair x = new RollbackPair(1, 1, 0);
        for (int peer = 0; peer < 2; peer++) {
            Play.advanceTimes(x, peer, 1, 2);
            stall(x, peer, 12);
            DUE.same("two packets sent", x.about(1 - peer, 4), 2);
        }
        for (int peer = 0; peer < 2; peer++) {
            DUE.same("cut off at DELAY", x.about(peer, 3), 1);
            DUE.same("dropped", x.deliver(peer), -2);
            DUE.same("goes on", x.advance(peer, 1), 2);
            DUE.same("its own inputs", x.known(peer, peer), 4);
        }
    }
}
