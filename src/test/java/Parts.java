/** The parts of a packet as a test expects them, and how to spoil one so that its check is right. */
final class Parts {
    /** 37 times this is 1, as ints. */
    private static final int ONE_BY_37 = -1857283155;

    int number;
    int frame;
    int ack;
    int first;
    int count;
    long bits;

    Parts(int number, int frame, int ack, int first, int count, long bits) {
        this.number = number;
        this.frame = frame;
        this.ack = ack;
        this.first = first;
        this.count = count;
        this.bits = bits;
    }

    int check() {
        return (checkOfNumbers() * 37 + (int) bits) * 37 + (int) (bits >> 32);
    }

    private int checkOfNumbers() {
        int[] parts = {number, frame, ack, first, count};
        int h = 23;
        for (int part : parts) {
            h = h * 37 + part;
        }
        return h;
    }

    /** Makes the first packet to a peer, which is as this one says, what the wanted one says. */
    void become(Parts wanted, RollbackPair pair, int peer) {
        boolean all = pair.spoil(peer, 0, number ^ wanted.number)
            & pair.spoil(peer, 1, frame ^ wanted.frame)
            & pair.spoil(peer, 2, ack ^ wanted.ack)
            & pair.spoil(peer, 3, first ^ wanted.first)
            & pair.spoil(peer, 4, count ^ wanted.count)
            & pair.spoil(peer, 5, (int) (bits ^ wanted.bits))
            & pair.spoil(peer, 6, check() ^ wanted.check());
        if (!all) {
            throw new IllegalStateException("no packet to spoil");
        }
    }

    /** As become, from the packet that peer 1 of a new pair (delay 0, start 0) sends with input 0. */
    static void forgeFirst(RollbackPair pair, int peer, Parts wanted) {
        new Parts(0, 1, 0, 0, 1, 0L).become(wanted, pair, peer);
    }

    /**
     * Delivers the first packet to a peer: whether it is just this one. Its lower inputs are spoilt
     * so that the right check has each bit of the present one turned, and so are the check's bits:
     * were the check or a part of it off by some d, the two would then differ by twice that d.
     */
    boolean arrives(RollbackPair pair, int peer) {
        int turned = ~check();
        int upper = (int) (bits >> 32);
        int lower = (turned - upper) * ONE_BY_37 - checkOfNumbers() * 37;
        pair.spoil(peer, 5, (int) bits ^ lower);
        pair.spoil(peer, 6, -1);
        return pair.deliver(peer) >= 0;
    }
}
