/** Arguments and runs of calls that several tests begin with. */
final class Play {
    /** No peers and no players; some of them would be 0 or 1 if they were cut to fewer bits. */
    static final int[] NO_PEER = {
        -1, 2, 3, 256, 65536, 65537, Integer.MIN_VALUE, Integer.MIN_VALUE + 1, Integer.MAX_VALUE};

    private Play() {
    }

    /** A pair whose peer has cut off the other one at 0 and goes on alone from frame 1: 13 calls. */
    static RollbackPair alone(int peer) {
        return alone(peer, 0);
    }

    /** As alone, with this input for frame 0. */
    static RollbackPair alone(int peer, int input) {
        RollbackPair x = new RollbackPair(0, 1, 0);
        for (int i = 0; i < 13; i++) {
            x.advance(peer, input);
        }
        return x;
    }

    /** One frame at both peers, which then know both inputs: 4 calls. */
    static void frame(RollbackPair x, int input0, int input1) {
        x.advance(1, input1);
        x.deliver(0);
        x.advance(0, input0);
        x.deliver(1);
    }

    static void advanceTimes(RollbackPair x, int peer, int input, int times) {
        for (int i = 0; i < times; i++) {
            x.advance(peer, input);
        }
    }

    static void loseFirst(RollbackPair x, int peer, int times) {
        for (int i = 0; i < times; i++) {
            x.alter(peer, 0);
        }
    }
}
