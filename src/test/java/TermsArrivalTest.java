/** Terms: a packet that arrives, with each of its parts at, below and above what is taken. */
public final class TermsArrivalTest {
    private static final Due DUE = new Due();

    public static void main(String[] args) {
        testNumberLater();
        testFirstTakenIsAlwaysLater();
        testDroppedNumberCountsForNothing();
        testAckAboveTheGreatest();
        testAckUpToItsOwnInputs();
        testAckFarBack();
        testFirstAtWhatIsKnown();
        testCounts();
        testLessThan20Beyond();
        testAllOf20BeyondAreUsed();
        testPlaysAgainAtTheEdges();
        testPlaysAgainAWholeWindow();
        testAdviceIsAFloat();
        DUE.end();
    }

    private static void forge(RollbackPair x, Parts sent, Parts wanted, int due, String what) {
        sent.become(wanted, x, 0);
        DUE.same(what, x.deliver(0), due);
    }

    /** Two packets from a peer at frame 0: the one taken, then one whose number is looked at. */
    private static void testNumberLater() {
        int[] latest = {0, 1, -1, 32767, -32768, 12345};
        int[] later = {1, 2, 100, 32766, 32767};
        int[] notLater = {0, -1, -2, -32767, -32768};
        for (int number : latest) {
            for (int more : later) {
                isTaken(number, (short) (number + more), true);
            }
            for (int more : notLater) {
                isTaken(number, (short) (number + more), false);
            }
        }
    }

    private static void isTaken(int latest, int number, boolean taken) {
        RollbackPair x = new RollbackPair(0, 8, 0);
        Play.advanceTimes(x, 1, 0, 2);
        forge(x, new Parts(0, 1, 0, 0, 1, 0L), new Parts(latest, 1, 0, 0, 1, 0L), 0, "first one");
        String what = number + " after " + latest;
        Parts second = new Parts(number, 2, 0, 0, 2, 0L);
        forge(x, new Parts(1, 2, 0, 0, 2, 0L), second, taken ? 0 : -2, what);
        DUE.same(what + ": known", x.known(0, 1), taken ? 2 : 1);
    }

    private static void testFirstTakenIsAlwaysLater() {
        int[] starts = {0, 1, -1, -2, 32767, -32768};
        for (int start : starts) {
            RollbackPair x = new RollbackPair(0, 8, start);
            Play.advanceTimes(x, 0, 0, 3);
            x.spoil(1, 6, 1);
            DUE.same("the first one is dropped", x.deliver(1), -2);
            DUE.same("the next is the first taken", x.deliver(1), 0);
            DUE.same("start " + start, x.known(1, 0), 2);
            DUE.same("and the next is later", x.deliver(1), 0);
        }
    }

    private static void testDroppedNumberCountsForNothing() {
        RollbackPair x = new RollbackPair(0, 8, 0);
        Play.advanceTimes(x, 1, 0, 4);
        x.alter(0, 2);
        DUE.same("number 1", x.deliver(0), 0);
        x.spoil(0, 0, 100 ^ 2);
        DUE.same("number 100, check not right", x.deliver(0), -2);
        DUE.same("number 3 is later than 1", x.deliver(0), 0);
        DUE.same("number 0 is not later than 3", x.deliver(0), -2);
        Play.advanceTimes(x, 1, 0, 1);
        DUE.same("number 4 is later than 3", x.deliver(0), 0);
    }

    private static RollbackPair told(int frames, int ack) {
        RollbackPair x = new RollbackPair(0, 8, 0);
        Play.advanceTimes(x, 0, 0, frames);
        Play.advanceTimes(x, 1, 0, 2);
        forge(x, new Parts(0, 1, 0, 0, 1, 0L), new Parts(0, 1, ack, 0, 1, 0L), 0, "first ack");
        DUE.same("told", x.about(0, 5), ack);
        return x;
    }

    private static void secondAck(RollbackPair x, int ack, int due) {
        forge(x, new Parts(1, 2, 0, 0, 2, 0L), new Parts(1, 2, ack, 0, 2, 0L), 0, "second ack");
        DUE.same("told, ack " + ack, x.about(0, 5), due);
    }

    private static void testAckAboveTheGreatest() {
        int[][] cases = {
            {2, 3}, {3, 3}, {4, 4}, {0, 3}, {-1, 3}, {-4, 3}, {Integer.MIN_VALUE, 3},
            {Integer.MIN_VALUE + 4, 3}};
        for (int[] one : cases) {
            secondAck(told(5, 3), one[0], one[1]);
        }
    }

    private static void testAckUpToItsOwnInputs() {
        int[][] cases = {{4, 4}, {5, 5}, {6, 3}, {7, 3}, {Integer.MAX_VALUE, 3}};
        for (int[] one : cases) {
            secondAck(told(5, 3), one[0], one[1]);
        }
        for (int delay = 0; delay <= 4; delay++) {
            for (int more = -1; more <= 1; more++) {
                RollbackPair x = new RollbackPair(delay, 8, 0);
                Play.advanceTimes(x, 0, 0, 2);
                x.advance(1, 0);
                int ack = delay + 2 + more;
                Parts sent = new Parts(0, 1, delay, delay, 1, 0L);
                forge(x, sent, new Parts(0, 1, ack, delay, 1, 0L), 0, "taken");
                DUE.same("its own go DELAY beyond", x.about(0, 5), more > 0 ? delay : ack);
            }
        }
    }

    private static int longRunInput(int frame) {
        return (frame * frame / 3 + frame / 16) % 8;
    }

    /** Peer 0 is told of no ack for 273 frames, and must then send inputs from far back. */
    private static void testAckFarBack() {
        RollbackPair x = new RollbackPair(0, 8, 0);
        int frame = 0;
        for (int round = 0; round < 17; round++) {
            x.advance(1, 0);
            int ack = round < 2 ? 0 : 16;
            Parts sent = new Parts(round, round + 1, ack, 0, Math.min(16, round + 1), 0L);
            forge(x, sent, new Parts(round, 1, 0, 16 * round, 16, 0L), 0, "sixteen more");
            for (int i = 0; i < 16; i++) {
                DUE.same("goes on", x.advance(0, longRunInput(frame)), frame);
                frame++;
            }
            if (round == 0) {
                Play.loseFirst(x, 1, 12);
            } else if (round == 1) {
                // Without the first sixteen peer 1 would stall before the last round.
                x.deliver(1);
                DUE.same("the first sixteen", x.known(1, 0), 16);
            }
        }
        DUE.same("told nothing", x.about(0, 5), 0);
        x.advance(1, 0);
        Parts sent = new Parts(17, 18, 16, 0, 16, 0L);
        forge(x, sent, new Parts(17, 1, 10, 272, 1, 0L), 0, "an ack at last");
        DUE.same("told", x.about(0, 5), 10);
        Play.loseFirst(x, 1, 12);
        x.advance(0, 0);
        long bits = 0;
        for (int i = 0; i < 16; i++) {
            bits |= (long) longRunInput(10 + i) << 3 * i;
        }
        DUE.same("from there on", new Parts(272, 273, 273, 10, 16, bits).arrives(x, 1), true);
    }

    private static void testFirstAtWhatIsKnown() {
        int[][] cases = {
            {3, 2}, {2, 18}, {1, 17}, {0, 16}, {-12, 4}, {-13, 3}, {-14, 2}, {-15, 2}, {18, 2},
            {Integer.MIN_VALUE, 2}, {Integer.MAX_VALUE, 2}, {Integer.MAX_VALUE - 15, 2},
            {Integer.MIN_VALUE + 2, 2}};
        for (int[] one : cases) {
            RollbackPair x = new RollbackPair(0, 8, 0);
            Play.advanceTimes(x, 1, 0, 2);
            x.alter(0, 2);
            x.deliver(0);
            DUE.same("known before", x.known(0, 1), 2);
            x.advance(1, 0);
            x.alter(0, 0);
            Parts sent = new Parts(2, 3, 0, 0, 3, 0L);
            forge(x, sent, new Parts(2, 3, 0, one[0], 16, 0L), 0, "taken");
            DUE.same("first " + one[0], x.known(0, 1), one[1]);
        }
    }

    private static void testCounts() {
        int[][] cases = {
            {Integer.MIN_VALUE, 0}, {-16, 0}, {-1, 0}, {0, 0}, {1, 1}, {2, 2}, {15, 15}, {16, 16},
            {17, 16}, {31, 16}, {32, 16}, {33, 16}, {Integer.MAX_VALUE, 16}};
        for (int[] one : cases) {
            RollbackPair x = new RollbackPair(0, 8, 0);
            x.advance(1, 0);
            Parts.forgeFirst(x, 0, new Parts(0, 1, 0, 0, one[0], 0L));
            DUE.same("taken", x.deliver(0), 0);
            DUE.same("count " + one[0], x.known(0, 1), one[1]);
        }
    }

    /** A peer at a frame knows 16 inputs; a second packet brings some more, up to 19 beyond it. */
    private static void testLessThan20Beyond() {
        for (int at = 0; at <= 8; at++) {
            for (int last = 16; last <= 31; last++) {
                RollbackPair x = new RollbackPair(0, 8, 0);
                Play.advanceTimes(x, 0, 0, at);
                Play.advanceTimes(x, 1, 0, 2);
                forge(x, new Parts(0, 1, 0, 0, 1, 0L), new Parts(0, 1, 0, 0, 16, 0L), 0, "first");
                Parts more = new Parts(1, 2, 0, 16, last - 15, 0L);
                forge(x, new Parts(1, 2, 0, 0, 2, 0L), more, 0, "second");
                int due = Math.min(last, at + 19) + 1;
                DUE.same("at " + at + ", inputs up to " + last, x.known(0, 1), due);
            }
        }
    }

    private static long tenInputs(int[] inputs, int from) {
        long bits = 0;
        for (int i = 0; i < 10; i++) {
            bits |= (long) inputs[from + i] << 3 * i;
        }
        return bits;
    }

    private static void testAllOf20BeyondAreUsed() {
        int[] inputs = {
            1, 6, 3, 0, 7, 2, 5, 4, 6, 1, 7, 0, 4, 3, 2, 5, 0, 7, 1, 6, 2, 4, 3, 5, 1, 0, 6, 7, 2, 3};
        RollbackPair x = new RollbackPair(0, 8, 0);
        Play.advanceTimes(x, 1, 0, 4);
        for (int i = 0; i < 3; i++) {
            Parts sent = new Parts(i, i + 1, 0, 0, i + 1, 0L);
            Parts wanted = new Parts(i, i + 1, 0, 10 * i, 10, tenInputs(inputs, 10 * i));
            forge(x, sent, wanted, 0, "taken");
            DUE.same("known", x.known(0, 1), Math.min(20, 10 * i + 10));
        }
        DUE.same("none confirmed yet", x.about(0, 1), 0);
        for (int frame = 0; frame < 20; frame++) {
            DUE.same("no stall", x.advance(0, 0), frame);
            DUE.same("frame " + frame, x.used(0, 1, frame), inputs[frame]);
        }
        DUE.same("all confirmed", x.about(0, 1), 20);
        x.advance(0, 0);
        DUE.same("the twenty-first is a guess", x.used(0, 1, 20), inputs[19]);
        Parts late = new Parts(3, 4, 0, 20, 10, tenInputs(inputs, 20));
        forge(x, new Parts(3, 4, 0, 0, 4, 0L), late, 1, "and comes late");
        DUE.same("as it is", x.used(0, 1, 20), inputs[20]);
    }

    /** Peer 0 is at frame 4 with guesses of 0; one input of five is another one. */
    private static void testPlaysAgainAtTheEdges() {
        for (int other = 0; other <= 5; other++) {
            RollbackPair x = new RollbackPair(0, 8, 0);
            Play.advanceTimes(x, 0, 0, 4);
            x.advance(1, 0);
            Parts.forgeFirst(x, 0, new Parts(0, 1, 0, 0, 5, 4L << 3 * other));
            DUE.same("another in frame " + other, x.deliver(0), Math.max(0, 4 - other));
            DUE.same("known", x.known(0, 1), 5);
            for (int frame = 0; frame < 4; frame++) {
                DUE.same("used", x.used(0, 1, frame), frame == other ? 4 : 0);
            }
            x.advance(0, 0);
            DUE.same("the frame that it was at", x.used(0, 1, 4), other == 4 ? 4 : 0);
        }
    }

    private static void testPlaysAgainAWholeWindow() {
        for (int window = 1; window <= 8; window++) {
            for (int delay = 0; delay <= 4; delay++) {
                RollbackPair x = new RollbackPair(delay, window, 0);
                Play.advanceTimes(x, 0, 0, window + delay);
                x.advance(1, 1);
                DUE.same("all but DELAY frames", x.deliver(0), window);
                float speed = 0f;
                for (int i = 0; i < window; i++) {
                    DUE.same("used", x.used(0, 1, delay + i), 1);
                    speed = speed * 0.875f - 0.3f;
                }
                DUE.same("speed", x.speed(0, 1), speed);
            }
        }
    }

    private static void testAdviceIsAFloat() {
        int[] frames = {
            123456789, -987654321, Integer.MIN_VALUE, 1000000007, 16777217, Integer.MAX_VALUE};
        RollbackPair x = new RollbackPair(0, 8, 0);
        Play.advanceTimes(x, 0, 0, 3);
        Play.advanceTimes(x, 1, 0, frames.length);
        float advice = 0f;
        double asDouble = 0.0;
        for (int i = 0; i < frames.length; i++) {
            Parts sent = new Parts(i, i + 1, 0, 0, i + 1, 0L);
            forge(x, sent, new Parts(i, frames[i], 0, 0, i + 1, 0L), 0, "taken");
            float less = 3 - frames[i];
            advice = advice * 0.75f + 0.25f * less;
            asDouble = asDouble * 0.75 + 0.25 * (3 - frames[i]);
            DUE.same("advice " + i, x.advice(0), advice);
        }
        DUE.same("doubles would come to another one", (float) asDouble != advice, true);
    }
}
