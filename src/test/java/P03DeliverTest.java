/** Promise 3: deliver, with all that makes a packet be dropped or taken, and playing again. */
public final class P03DeliverTest {
    private static final Due DUE = new Due();

    public static void main(String[] args) {
        testNothingThere();
        testFramesPlayedAgain();
        testPlaysAgainFromFirstWrongFrame();
        testPlaysAgainWithNewGuesses();
        testWrongCheckIsDropped();
        testNumberMustBeLater();
        testFirstIsAlwaysLater();
        testDroppedAfterCutOff();
        testDroppedChangesNothing();
        testAckRules();
        testAckBeyondOwnIsNotTaken();
        testGapIsNotLearnt();
        testOverlapIsLearnt();
        testCountIsHeldToSixteen();
        testNegativeCount();
        testWildFirst();
        testTwentyBeyond();
        testLaterInputsAfterLongAckLag();
        DUE.end();
    }

    private static void testNothingThere() {
        RollbackPair x = new RollbackPair(0, 8, 0);
        int[] wrong = Play.NO_PEER;
        for (int peer : wrong) {
            DUE.same("no such peer", x.deliver(peer), RollbackPair.NONE);
        }
        DUE.same("no packet", x.deliver(0), RollbackPair.NONE);
        x.advance(0, 0);
        DUE.same("none to the sender", x.deliver(0), RollbackPair.NONE);
        DUE.same("one to the other", x.deliver(1), 0);
        DUE.same("it is gone", x.deliver(1), RollbackPair.NONE);
    }

    private static void testFramesPlayedAgain() {
        RollbackPair x = new RollbackPair(0, 8, 0);
        for (int i = 0; i < 5; i++) {
            x.advance(0, 2);
        }
        x.advance(1, 1);
        x.advance(1, 1);
        DUE.same("all five", x.deliver(0), 5);
        DUE.same("the guess was right", x.deliver(0), 0);
    }

    private static void testPlaysAgainFromFirstWrongFrame() {
        RollbackPair x = new RollbackPair(0, 8, 0);
        for (int i = 0; i < 6; i++) {
            x.advance(0, 2);
        }
        int before = x.sum(0, 2);
        int[] inputs = {0, 0, 4, 0};
        for (int input : inputs) {
            x.advance(1, input);
        }
        x.alter(0, 0);
        x.alter(0, 0);
        x.alter(0, 0);
        DUE.same("from frame 2 on", x.deliver(0), 4);
        DUE.same("the state before stays", x.sum(0, 2), before);
        DUE.same("frame 2", x.used(0, 1, 2), 4);
        DUE.same("frame 3", x.used(0, 1, 3), 0);
    }

    private static void testPlaysAgainWithNewGuesses() {
        RollbackPair x = new RollbackPair(0, 8, 0);
        for (int i = 0; i < 3; i++) {
            x.advance(0, 0);
        }
        x.advance(1, 2);
        DUE.same("three again", x.deliver(0), 3);
        float speed = 0f;
        float place = 24f;
        for (int i = 0; i < 3; i++) {
            DUE.same("used", x.used(0, 1, i), 2);
            speed = speed * 0.875f + 0.3f;
            place = place + speed;
        }
        DUE.same("speed", x.speed(0, 1), speed);
        DUE.same("place", x.place(0, 1), place);
    }

    private static void testWrongCheckIsDropped() {
        for (int part = 0; part < 7; part++) {
            for (int bit = 0; bit < 32; bit++) {
                RollbackPair x = new RollbackPair(0, 8, 77);
                x.advance(1, 5);
                DUE.same("spoil", x.spoil(0, part, 1 << bit), true);
                boolean whole = part == 0 && bit >= 16;
                DUE.same("part " + part + " bit " + bit, x.deliver(0), whole ? 0 : -2);
                DUE.same("row", x.about(0, 4), 0);
            }
        }
    }

    private static void testNumberMustBeLater() {
        int[][] cases = {
            {0, 1, 1}, {0, 0, 0}, {1, 0, 0}, {0, 32767, 1}, {0, -32768, 0}, {0, -1, 0},
            {32767, -32768, 1}, {-32768, 32767, 0}, {-1, 0, 1}, {100, -32669, 1}, {100, -32668, 0}};
        for (int[] one : cases) {
            RollbackPair x = new RollbackPair(0, 8, 0);
            x.advance(1, 0);
            x.advance(1, 0);
            Parts.forgeFirst(x, 0, new Parts(one[0], 1, 0, 0, 1, 0L));
            DUE.same("first one", x.deliver(0), 0);
            Parts second = new Parts(1, 2, 0, 0, 2, 0L);
            second.become(new Parts(one[1], 2, 0, 0, 2, 0L), x, 0);
            DUE.same(one[1] + " after " + one[0], x.deliver(0), one[2] == 1 ? 0 : -2);
        }
    }

    private static void testFirstIsAlwaysLater() {
        int[] starts = {0, -1, 1, 32767, -32768};
        for (int start : starts) {
            RollbackPair x = new RollbackPair(0, 8, start);
            x.advance(0, 1);
            DUE.same("start " + start, x.deliver(1), 0);
            DUE.same("known", x.known(1, 0), 1);
        }
    }

    private static void testDroppedAfterCutOff() {
        RollbackPair x = new RollbackPair(0, 1, 0);
        for (int i = 0; i < 13; i++) {
            x.advance(0, 0);
        }
        x.advance(1, 3);
        DUE.same("dropped", x.deliver(0), -2);
        DUE.same("the packet is gone", x.about(0, 4), 0);
        DUE.same("nothing learnt", x.known(0, 1), 0);
        DUE.same("stalls stay", x.about(0, 2), 12);
        DUE.same("the other one still takes", x.deliver(1), 0);
    }

    private static void testDroppedChangesNothing() {
        RollbackPair x = new RollbackPair(0, 8, 0);
        x.advance(0, 2);
        x.advance(0, 2);
        x.advance(1, 5);
        int sum = x.sum(0, 2);
        Parts sent = new Parts(0, 1, 0, 0, 1, 5L);
        sent.become(new Parts(9, 1, 2, 0, 1, 5L), x, 0);
        x.spoil(0, 6, 1);
        DUE.same("dropped", x.deliver(0), -2);
        DUE.same("known", x.known(0, 1), 0);
        DUE.same("told", x.about(0, 5), 0);
        DUE.same("advice", x.advice(0), 0.0);
        DUE.same("sum", x.sum(0, 2), sum);
        x.advance(1, 5);
        DUE.same("its number counts for nothing", x.deliver(0), 2);
    }

    private static void testAckRules() {
        int[][] cases = {{2, 2}, {3, 3}, {4, 0}, {0, 0}, {-1, 0}, {Integer.MAX_VALUE, 0}};
        for (int[] one : cases) {
            RollbackPair x = new RollbackPair(0, 8, 0);
            for (int i = 0; i < 3; i++) {
                x.advance(0, 0);
            }
            x.advance(1, 0);
            Parts.forgeFirst(x, 0, new Parts(0, 1, one[0], 0, 1, 0L));
            DUE.same("taken", x.deliver(0), 0);
            DUE.same("told, ack " + one[0], x.about(0, 5), one[1]);
        }
    }

    private static void testAckBeyondOwnIsNotTaken() {
        RollbackPair x = new RollbackPair(3, 8, 0);
        x.advance(0, 0);
        x.advance(1, 0);
        x.advance(1, 0);
        Parts sent = new Parts(0, 1, 3, 3, 1, 0L);
        sent.become(new Parts(0, 1, 4, 3, 1, 0L), x, 0);
        x.deliver(0);
        DUE.same("an ack within the delayed own inputs", x.about(0, 5), 4);
        x.deliver(0);
        DUE.same("a lower ack later", x.about(0, 5), 4);
        x.alter(1, 0);
        x.advance(0, 6);
        Parts next = new Parts(1, 2, 5, 4, 1, 6L);
        next.become(new Parts(1, 2, 5, 4, 1, 7L), x, 1);
        DUE.same("the next packet begins at the ack", x.deliver(1), 0);
        DUE.same("so it leaves a gap", x.known(1, 0), 3);
    }

    private static void testGapIsNotLearnt() {
        RollbackPair x = new RollbackPair(0, 8, 0);
        x.advance(1, 0);
        Parts.forgeFirst(x, 0, new Parts(0, 1, 0, 1, 16, 0777L));
        DUE.same("taken", x.deliver(0), 0);
        DUE.same("nothing follows", x.known(0, 1), 0);
    }

    private static void testOverlapIsLearnt() {
        RollbackPair x = new RollbackPair(0, 8, 0);
        x.advance(0, 0);
        x.advance(1, 0);
        Parts.forgeFirst(x, 0, new Parts(0, 1, 0, -2, 4, 1 | 2 << 3 | 3 << 6 | 4 << 9));
        DUE.same("taken", x.deliver(0), 1);
        DUE.same("two of four follow", x.known(0, 1), 2);
        DUE.same("frame 0", x.used(0, 1, 0), 3);
        x.advance(0, 0);
        DUE.same("frame 1", x.used(0, 1, 1), 4);
    }

    private static void testCountIsHeldToSixteen() {
        int[] counts = {16, 17, 21, Integer.MAX_VALUE};
        for (int count : counts) {
            RollbackPair x = new RollbackPair(0, 8, 0);
            x.advance(1, 0);
            Parts.forgeFirst(x, 0, new Parts(0, 1, 0, 0, count, 7L << 27));
            DUE.same("taken", x.deliver(0), 0);
            DUE.same("count " + count, x.known(0, 1), 16);
            for (int i = 0; i < 12; i++) {
                x.advance(0, 0);
                DUE.same("input " + i, x.used(0, 1, i), i == 9 ? 7 : 0);
            }
        }
    }

    private static void testNegativeCount() {
        int[] counts = {0, -1, Integer.MIN_VALUE};
        for (int count : counts) {
            RollbackPair x = new RollbackPair(0, 8, 0);
            x.advance(1, 0);
            Parts.forgeFirst(x, 0, new Parts(0, 1, 0, 0, count, 0777L));
            DUE.same("taken", x.deliver(0), 0);
            DUE.same("count " + count, x.known(0, 1), 0);
        }
    }

    private static void testWildFirst() {
        int[] firsts = {Integer.MIN_VALUE, Integer.MIN_VALUE + 5, -16, Integer.MAX_VALUE,
            Integer.MAX_VALUE - 3};
        for (int first : firsts) {
            RollbackPair x = new RollbackPair(0, 8, 0);
            x.advance(1, 0);
            Parts.forgeFirst(x, 0, new Parts(0, 1, 0, first, Integer.MAX_VALUE, 0777L));
            DUE.same("taken", x.deliver(0), 0);
            DUE.same("first " + first, x.known(0, 1), 0);
        }
    }

    private static void testTwentyBeyond() {
        RollbackPair x = new RollbackPair(0, 8, 0);
        for (int i = 0; i < 4; i++) {
            x.advance(1, 0);
        }
        Parts.forgeFirst(x, 0, new Parts(0, 1, 0, 0, 16, 0L));
        x.deliver(0);
        new Parts(1, 2, 0, 0, 2, 0L).become(new Parts(1, 2, 0, 16, 16, 012345L), x, 0);
        DUE.same("taken", x.deliver(0), 0);
        DUE.same("frames 0 to 19", x.known(0, 1), 20);
        x.advance(0, 0);
        new Parts(2, 3, 0, 0, 3, 0L).become(new Parts(2, 3, 0, 10, 16, 0L), x, 0);
        DUE.same("taken", x.deliver(0), 0);
        DUE.same("one more at frame 1", x.known(0, 1), 21);
        for (int i = 1; i < 20; i++) {
            DUE.same("no stall", x.advance(0, 0), i);
        }
        int[] due = {5, 4, 3, 2};
        for (int i = 0; i < 4; i++) {
            DUE.same("frame " + (16 + i), x.used(0, 1, 16 + i), due[i]);
        }
    }

    private static void testLaterInputsAfterLongAckLag() {
        int[] inputs = new int[220];
        for (int i = 0; i < inputs.length; i++) {
            inputs[i] = (i * i / 3 + i / 16) % 8;
        }
        RollbackPair x = Play.alone(0, inputs[0]);
        for (int i = 1; i < inputs.length; i++) {
            x.alter(1, 0);
            x.advance(0, inputs[i]);
        }
        DUE.same("taken", x.deliver(1), 0);
        DUE.same("the first sixteen", x.known(1, 0), 16);
        for (int i = 0; i < 16; i++) {
            x.advance(1, 0);
            DUE.same("input " + i, x.used(1, 0, i), inputs[i]);
        }
    }
}
