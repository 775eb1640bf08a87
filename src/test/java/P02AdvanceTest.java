/** Promise 2: advance, with stalls, cutting off, delay, guesses and the packets it sends. */
public final class P02AdvanceTest {
    private static final Due DUE = new Due();

    public static void main(String[] args) {
        testFramesInOrder();
        testWrongArguments();
        testStallChangesNothingElse();
        testTwelveStallsCutOff();
        testStallsAreCountedSinceTakenPacket();
        testCutOffPlaysAgainWithZero();
        testNoStallAfterCutOff();
        testGuessIsLatestKnown();
        testFullRowLosesButNumbers();
        testPacketTellsOwnInputs();
        testPacketTellsAtMostSixteen();
        testAckAfterCutOff();
        DUE.end();
    }

    private static void testFramesInOrder() {
        RollbackPair x = new RollbackPair(1, 8, 0);
        for (int frame = 0; frame < 5; frame++) {
            DUE.same("advance", x.advance(1, frame), frame);
        }
        DUE.same("the other one does not move", x.about(0, 0), 0);
        DUE.same("packets sent", x.about(0, 4), 5);
        DUE.same("own known", x.known(1, 1), 6);
        for (int frame = 1; frame < 5; frame++) {
            DUE.same("delayed input", x.used(1, 1, frame), frame - 1);
        }
    }

    private static void testWrongArguments() {
        RollbackPair x = new RollbackPair(0, 1, 0);
        int[] wrong = Play.NO_PEER;
        for (int peer : wrong) {
            DUE.same("no such peer", x.advance(peer, 0), -2);
        }
        int[] wrongInputs = {-1, 8, Integer.MIN_VALUE, Integer.MAX_VALUE};
        for (int input : wrongInputs) {
            DUE.same("no such input", x.advance(0, input), -2);
        }
        DUE.same("still at 0", x.about(0, 0), 0);
        DUE.same("nothing sent", x.about(1, 4), 0);
        DUE.same("input 7", x.advance(0, 7), 0);
        DUE.same("wrong input where it would stall", x.advance(0, 8), -2);
        DUE.same("no stall by that", x.about(0, 2), 0);
    }

    private static void testStallChangesNothingElse() {
        RollbackPair x = new RollbackPair(0, 2, 0);
        x.advance(0, 1);
        x.advance(0, 2);
        int sum = x.sum(0, 2);
        DUE.same("stall", x.advance(0, 3), RollbackPair.NONE);
        DUE.same("stalled once", x.about(0, 2), 1);
        DUE.same("frame", x.about(0, 0), 2);
        DUE.same("own known", x.known(0, 0), 2);
        DUE.same("sum", x.sum(0, 2), sum);
        DUE.same("row", x.about(1, 4), 2);
        x.advance(1, 0);
        x.deliver(0);
        DUE.same("goes on", x.advance(0, 4), 2);
        DUE.same("the stalled input is forgotten", x.used(0, 0, 2), 4);
    }

    private static RollbackPair stalled(int delay, int window, int frames, int stalls) {
        RollbackPair x = new RollbackPair(delay, window, 0);
        for (int i = 0; i < frames; i++) {
            DUE.same("frame before stalls", x.advance(0, 2), i);
        }
        for (int i = 0; i < stalls; i++) {
            DUE.same("stall", x.advance(0, 1), RollbackPair.NONE);
        }
        return x;
    }

    private static void testTwelveStallsCutOff() {
        RollbackPair x = stalled(0, 3, 3, 11);
        DUE.same("11 stalls", x.about(0, 2), 11);
        DUE.same("not cut off by 11", x.about(0, 3), RollbackPair.NONE);
        DUE.same("the twelfth answers NONE too", x.advance(0, 0), RollbackPair.NONE);
        DUE.same("12 stalls", x.about(0, 2), 12);
        DUE.same("cut off at", x.about(0, 3), 0);
        DUE.same("the other one has cut off none", x.about(1, 3), RollbackPair.NONE);
    }

    private static void testStallsAreCountedSinceTakenPacket() {
        RollbackPair x = stalled(0, 3, 3, 11);
        x.advance(1, 0);
        x.spoil(0, 6, 1);
        DUE.same("dropped", x.deliver(0), -2);
        DUE.same("a dropped packet leaves the stalls", x.about(0, 2), 11);
        x.advance(1, 0);
        DUE.same("taken", x.deliver(0), 0);
        DUE.same("a taken one does not", x.about(0, 2), 0);
    }

    private static void testCutOffPlaysAgainWithZero() {
        RollbackPair x = new RollbackPair(0, 2, 0);
        x.advance(1, 1);
        x.deliver(0);
        for (int i = 0; i < 3; i++) {
            DUE.same("advance", x.advance(0, 2), i);
        }
        DUE.same("guess", x.used(0, 1, 2), 1);
        for (int i = 0; i < 12; i++) {
            x.advance(0, 2);
        }
        DUE.same("cut off at 1", x.about(0, 3), 1);
        DUE.same("frame 0 stays", x.used(0, 1, 0), 1);
        DUE.same("frame 1 is 0 now", x.used(0, 1, 1), 0);
        DUE.same("frame 2 is 0 now", x.used(0, 1, 2), 0);
        float speed = ((-0.3f) * 0.875f) * 0.875f;
        DUE.same("speed after playing again", x.speed(0, 1), speed);
    }

    private static void testNoStallAfterCutOff() {
        RollbackPair x = stalled(0, 1, 1, 12);
        for (int frame = 1; frame < 40; frame++) {
            DUE.same("goes on for ever", x.advance(0, 2), frame);
            DUE.same("with 0", x.used(0, 1, frame), 0);
        }
        DUE.same("stalls stay", x.about(0, 2), 12);
        DUE.same("cut off stays", x.about(0, 3), 0);
    }

    private static void testGuessIsLatestKnown() {
        RollbackPair x = new RollbackPair(0, 8, 0);
        x.advance(0, 1);
        DUE.same("nothing known: 0", x.used(0, 1, 0), 0);
        x.advance(1, 3);
        x.advance(1, 6);
        x.deliver(0);
        DUE.same("known one", x.used(0, 1, 0), 3);
        x.advance(0, 1);
        DUE.same("guess by frame 0", x.used(0, 1, 1), 3);
        x.deliver(0);
        x.advance(0, 1);
        DUE.same("guess by frame 1", x.used(0, 1, 2), 6);
    }

    private static void testFullRowLosesButNumbers() {
        RollbackPair x = stalled(0, 1, 1, 12);
        for (int i = 0; i < 12; i++) {
            x.advance(0, 0);
        }
        DUE.same("row holds 12", x.about(1, 4), 12);
        x.alter(1, 0);
        x.advance(0, 0);
        DUE.same("room for one", x.about(1, 4), 12);
        for (int i = 0; i < 11; i++) {
            x.alter(1, 0);
        }
        // Numbers 0 to 11 were in the row, 12 was lost, so the last one is 13, at frame 14.
        Parts last = new Parts(13, 14, 0, 0, 14, 2L);
        last.become(new Parts(13, 14, 0, 0, 14, 3L), x, 1);
        DUE.same("its check is right", x.deliver(1), 0);
        DUE.same("its inputs", x.known(1, 0), 14);
    }

    private static void testPacketTellsOwnInputs() {
        RollbackPair x = new RollbackPair(2, 8, 5);
        for (int i = 1; i <= 4; i++) {
            x.advance(0, i);
        }
        for (int i = 0; i < 3; i++) {
            x.alter(1, 0);
        }
        long bits = 1 | 2 << 3 | 3 << 6 | 4 << 9;
        Parts sent = new Parts(8, 4, 2, 2, 4, bits);
        sent.become(new Parts(8, 3, 2, 2, 4, bits), x, 1);
        DUE.same("the packet is as told", x.deliver(1), 0);
        DUE.same("its frame", x.advice(1), -0.75);
        DUE.same("its inputs", x.known(1, 0), 6);
        for (int i = 0; i < 6; i++) {
            x.advance(1, 0);
            DUE.same("input " + i, x.used(1, 0, i), Math.max(0, i - 1));
        }
    }

    private static void testPacketTellsAtMostSixteen() {
        RollbackPair x = stalled(0, 1, 1, 12);
        for (int i = 1; i < 20; i++) {
            x.alter(1, 0);
            x.advance(0, i & 7);
        }
        long bits = 2;
        for (int i = 1; i < 16; i++) {
            bits |= (long) (i & 7) << 3 * i;
        }
        Parts sent = new Parts(19, 20, 0, 0, 16, bits);
        sent.become(new Parts(19, 20, 0, 0, 16, bits ^ 1), x, 1);
        DUE.same("the packet is as told", x.deliver(1), 0);
        DUE.same("16 at most", x.known(1, 0), 16);
    }

    private static void testAckAfterCutOff() {
        RollbackPair x = new RollbackPair(0, 1, 0);
        x.advance(1, 1);
        x.deliver(0);
        x.advance(0, 2);
        x.alter(1, 0);
        x.advance(0, 2);
        x.alter(1, 0);
        for (int i = 0; i < 12; i++) {
            x.advance(0, 2);
        }
        DUE.same("cut off at 1", x.about(0, 3), 1);
        x.advance(0, 2);
        x.deliver(1);
        DUE.same("the ack is where it was cut off", x.about(1, 5), 1);
    }
}
