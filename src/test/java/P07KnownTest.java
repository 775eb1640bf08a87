/** Promise 7: known. */
public final class P07KnownTest {
    private static final Due DUE = new Due();

    public static void main(String[] args) {
        testWrongArguments();
        testOwnIsDelayAhead();
        testOthersByPackets();
        testCutOff();
        DUE.end();
    }

    private static void testWrongArguments() {
        RollbackPair x = new RollbackPair(2, 8, 0);
        int[] wrong = Play.NO_PEER;
        for (int one : wrong) {
            DUE.same("no such peer", x.known(one, 0), RollbackPair.NONE);
            DUE.same("no such player", x.known(0, one), RollbackPair.NONE);
            DUE.same("neither", x.known(one, one), RollbackPair.NONE);
        }
    }

    private static void testOwnIsDelayAhead() {
        for (int delay = 0; delay <= 4; delay++) {
            RollbackPair x = new RollbackPair(delay, 3, 0);
            for (int i = 0; i < 10; i++) {
                x.advance(1, 5);
                DUE.same("own", x.known(1, 1), Math.min(delay + 3, i + 1) + delay);
                DUE.same("other", x.known(1, 0), delay);
            }
        }
    }

    private static void testOthersByPackets() {
        RollbackPair x = new RollbackPair(1, 8, 0);
        for (int i = 0; i < 3; i++) {
            x.advance(0, 2);
        }
        x.alter(1, 0);
        x.deliver(1);
        DUE.same("the second tells both", x.known(1, 0), 3);
        DUE.same("own stays", x.known(1, 1), 1);
        x.deliver(1);
        DUE.same("the third", x.known(1, 0), 4);
    }

    private static void testCutOff() {
        RollbackPair x = new RollbackPair(0, 1, 0);
        x.advance(1, 3);
        x.advance(1, 3);
        x.deliver(0);
        for (int i = 0; i < 40; i++) {
            x.advance(0, 2);
        }
        DUE.same("where it was cut off", x.known(0, 1), 1);
        DUE.same("the same as about", x.about(0, 3), 1);
        DUE.same("own goes on", x.known(0, 0), x.about(0, 0));
    }
}
