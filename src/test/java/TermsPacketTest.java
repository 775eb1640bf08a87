import java.math.BigInteger;

/** Terms: what a packet holds at its edges: numbers and a check that wrap, and at most 16 inputs. */
public final class TermsPacketTest {
    private static final Due DUE = new Due();

    public static void main(String[] args) {
        testNumbersWrap();
        testCheckWraps();
        testAtMostSixteen();
        testEachInputInItsBits();
        testInputsFromDelayAtFirst();
        testInputsFromTheAck();
        testAckWhenNothingIsKnown();
        DUE.end();
    }

    private static void testNumbersWrap() {
        int[] starts = {32765, 32766, 32767, 32768, -32769, -32768, -2, -1, 0, 65534, 0x7FFFFFFF};
        for (int start : starts) {
            for (int sender = 0; sender < 2; sender++) {
                RollbackPair x = new RollbackPair(0, 8, start);
                Play.advanceTimes(x, sender, 0, 4);
                for (int i = 0; i < 4; i++) {
                    Parts due = new Parts((short) (start + i), i + 1, 0, 0, i + 1, 0L);
                    DUE.same("start " + start + ", packet " + i, due.arrives(x, 1 - sender), true);
                }
            }
        }
    }

    /** The check without wrapping, of which an int holds the lowest 32 bits. */
    private static BigInteger wholeCheck(long... parts) {
        BigInteger h = BigInteger.valueOf(23);
        for (long part : parts) {
            h = h.multiply(BigInteger.valueOf(37)).add(BigInteger.valueOf(part));
        }
        return h;
    }

    private static void testCheckWraps() {
        RollbackPair x = new RollbackPair(0, 8, -7);
        x.advance(0, 5);
        BigInteger sent = wholeCheck(-7, 1, 0, 0, 1, 5, 0);
        BigInteger wanted = wholeCheck(-7, 1 ^ 0x5A5A5A5A, 0, 0, 1, 5, 0);
        DUE.same("it is more than an int holds", sent.bitLength() > 32, true);
        x.spoil(1, 1, 0x5A5A5A5A);
        x.spoil(1, 6, sent.intValue() ^ wanted.intValue());
        DUE.same("the lowest 32 bits are right", x.deliver(1), 0);
        RollbackPair y = new RollbackPair(0, 8, -7);
        y.advance(0, 5);
        y.spoil(1, 6, 0x80000000);
        DUE.same("all of the 32 bits count", y.deliver(1), -2);
    }

    private static void testAtMostSixteen() {
        int[][] cases = {{1, 1}, {2, 2}, {15, 15}, {16, 16}, {17, 16}, {18, 16}, {200, 16}};
        for (int[] one : cases) {
            RollbackPair x = Play.alone(0);
            for (int own = 2; own <= one[0]; own++) {
                Play.loseFirst(x, 1, 1);
                x.advance(0, 0);
            }
            Parts due = new Parts(one[0] - 1, one[0], 0, 0, one[1], 0L);
            DUE.same(one[0] + " own inputs", due.arrives(x, 1), true);
        }
    }

    /** The eleventh input lies on both sides of the middle of the bits, the last one ends at 48. */
    private static void testEachInputInItsBits() {
        int[] inputs = {7, 1, 6, 2, 5, 3, 4, 7, 0, 1, 7, 2, 6, 3, 5, 7, 4};
        for (int twice = 0; twice < 2; twice++) {
            RollbackPair x = Play.alone(0, inputs[0]);
            for (int i = 1; i < 17; i++) {
                Play.loseFirst(x, 1, 1);
                x.advance(0, inputs[i]);
            }
            if (twice == 1) {
                DUE.same("the packet comes twice", x.alter(1, 1), true);
                DUE.same("and its copy alone arrives", x.alter(1, 0), true);
            }
            DUE.same("taken", x.deliver(1), 0);
            DUE.same("sixteen of seventeen", x.known(1, 0), 16);
            for (int i = 0; i < 16; i++) {
                x.advance(1, 0);
                DUE.same("input " + i, x.used(1, 0, i), inputs[i]);
            }
            x.advance(1, 0);
            DUE.same("the seventeenth is a guess", x.used(1, 0, 16), inputs[15]);
        }
    }

    private static void testInputsFromDelayAtFirst() {
        for (int delay = 0; delay <= 4; delay++) {
            RollbackPair x = new RollbackPair(delay, 8, 0);
            x.advance(0, 6);
            x.advance(0, 3);
            Parts first = new Parts(0, 1, delay, delay, 1, 6L);
            DUE.same("delay " + delay + ", first packet", first.arrives(x, 1), true);
            Parts second = new Parts(1, 2, delay, delay, 2, 6L | 3L << 3);
            DUE.same("delay " + delay + ", second packet", second.arrives(x, 1), true);
        }
    }

    private static void testInputsFromTheAck() {
        for (int ack = 0; ack <= 3; ack++) {
            RollbackPair x = new RollbackPair(0, 8, 0);
            for (int i = 1; i <= 3; i++) {
                x.advance(0, i);
            }
            Play.loseFirst(x, 1, 3);
            x.advance(1, 0);
            Parts.forgeFirst(x, 0, new Parts(0, 1, ack, 0, 1, 0L));
            DUE.same("taken", x.deliver(0), 0);
            x.advance(0, 4);
            long bits = (1L | 2L << 3 | 3L << 6 | 4L << 9) >> 3 * ack;
            Parts due = new Parts(3, 4, 1, ack, 4 - ack, bits);
            DUE.same("told " + ack + " of 3", due.arrives(x, 1), true);
        }
    }

    private static void testAckWhenNothingIsKnown() {
        RollbackPair x = new RollbackPair(0, 8, 0);
        x.advance(0, 0);
        DUE.same("ack 0", new Parts(0, 1, 0, 0, 1, 0L).arrives(x, 1), true);
        x.advance(1, 0);
        x.deliver(0);
        x.advance(0, 0);
        DUE.same("ack 1", new Parts(1, 2, 1, 1, 1, 0L).arrives(x, 1), true);
    }
}
