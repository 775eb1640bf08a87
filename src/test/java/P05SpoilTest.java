/** Promise 5: spoil. */
public final class P05SpoilTest {
    private static final Due DUE = new Due();

    public static void main(String[] args) {
        testWrongArguments();
        testEachPartIsItsOwn();
        testNumberIsCutToShort();
        testOnlyTheFirstPacket();
        testTwiceMends();
        DUE.end();
    }

    private static void testWrongArguments() {
        RollbackPair x = new RollbackPair(0, 8, 0);
        for (int part = 0; part < 7; part++) {
            DUE.same("no packet", x.spoil(0, part, 1), false);
        }
        x.advance(0, 1);
        int[] wrongPeers = {-1, 2, Integer.MIN_VALUE, Integer.MAX_VALUE};
        int[] wrongParts = {-1, 7, Integer.MIN_VALUE, Integer.MAX_VALUE};
        for (int i = 0; i < 4; i++) {
            DUE.same("no such peer", x.spoil(wrongPeers[i], 0, 1), false);
            DUE.same("no such part", x.spoil(1, wrongParts[i], 1), false);
        }
        DUE.same("none to the sender", x.spoil(0, 0, 1), false);
        DUE.same("no bits are a part spoilt too", x.spoil(1, 6, 0), true);
        DUE.same("the packet is whole", x.deliver(1), 0);
        DUE.same("known", x.known(1, 0), 1);
    }

    private static void testEachPartIsItsOwn() {
        RollbackPair x = new RollbackPair(0, 8, 0);
        for (int i = 0; i < 4; i++) {
            x.advance(0, 0);
        }
        x.advance(1, 0);
        x.advance(1, 0);
        Parts.forgeFirst(x, 0, new Parts(1000, -8, 3, -1, 3, 0xFFFFFFFFL));
        DUE.same("taken, all four again", x.deliver(0), 4);
        DUE.same("frame", x.advice(0), 3.0);
        DUE.same("ack", x.about(0, 5), 3);
        DUE.same("first and count", x.known(0, 1), 2);
        DUE.same("inputs", x.used(0, 1, 1), 7);
        DUE.same("number", x.deliver(0), -2);
    }

    private static void testNumberIsCutToShort() {
        RollbackPair x = new RollbackPair(0, 8, -1);
        x.advance(0, 1);
        DUE.same("upper bits alone", x.spoil(1, 0, 0xFFFF0000), true);
        DUE.same("change nothing", x.deliver(1), 0);
        RollbackPair y = new RollbackPair(0, 8, 0);
        y.advance(0, 1);
        DUE.same("to -32768", y.spoil(1, 0, 0x8000), true);
        int fix = new Parts(0, 1, 0, 0, 1, 1L).check() ^ new Parts(-32768, 1, 0, 0, 1, 1L).check();
        y.spoil(1, 6, fix);
        DUE.same("with its sign", y.deliver(1), 0);
    }

    private static void testOnlyTheFirstPacket() {
        RollbackPair x = new RollbackPair(0, 8, 0);
        x.advance(0, 1);
        x.advance(0, 1);
        x.spoil(1, 5, 4);
        DUE.same("the first", x.deliver(1), -2);
        DUE.same("not the second", x.deliver(1), 0);
        DUE.same("known", x.known(1, 0), 2);
    }

    private static void testTwiceMends() {
        for (int part = 0; part < 7; part++) {
            RollbackPair x = new RollbackPair(0, 8, 0);
            x.advance(0, 1);
            x.spoil(1, part, 0x87654321);
            x.spoil(1, part, 0x87654321);
            DUE.same("part " + part, x.deliver(1), 0);
        }
    }
}
