/** Promise 6: about. */
public final class P06AboutTest {
    private static final Due DUE = new Due();

    public static void main(String[] args) {
        testWrongArguments();
        testFrameAndConfirmed();
        testConfirmedUpToThePresentFrame();
        testStallsAndCutOff();
        testRowAndAck();
        DUE.end();
    }

    private static void testWrongArguments() {
        RollbackPair x = new RollbackPair(2, 8, 0);
        x.advance(0, 0);
        int[] wrongPeers = {-1, 2, Integer.MIN_VALUE, Integer.MAX_VALUE};
        int[] wrongWhats = {-1, 6, Integer.MIN_VALUE, Integer.MAX_VALUE};
        for (int i = 0; i < 4; i++) {
            for (int what = 0; what < 6; what++) {
                DUE.same("no such peer", x.about(wrongPeers[i], what), RollbackPair.NONE);
            }
            DUE.same("no such what", x.about(0, wrongWhats[i]), RollbackPair.NONE);
        }
    }

    private static void testFrameAndConfirmed() {
        RollbackPair x = new RollbackPair(0, 8, 0);
        for (int i = 1; i <= 5; i++) {
            x.advance(0, 0);
            DUE.same("frame", x.about(0, 0), i);
            DUE.same("nothing confirmed", x.about(0, 1), 0);
        }
        x.advance(1, 0);
        x.advance(1, 0);
        x.deliver(0);
        DUE.same("one confirmed", x.about(0, 1), 1);
        x.deliver(0);
        DUE.same("two confirmed", x.about(0, 1), 2);
        DUE.same("none at the other", x.about(1, 1), 0);
    }

    private static void testConfirmedUpToThePresentFrame() {
        RollbackPair x = new RollbackPair(4, 8, 0);
        x.advance(1, 0);
        x.deliver(0);
        DUE.same("known ahead", x.known(0, 1), 5);
        DUE.same("none yet", x.about(0, 1), 0);
        for (int i = 1; i <= 7; i++) {
            x.advance(0, 0);
            DUE.same("confirmed", x.about(0, 1), Math.min(5, i));
        }
    }

    private static void testStallsAndCutOff() {
        RollbackPair x = new RollbackPair(2, 3, 0);
        for (int i = 0; i < 5; i++) {
            x.advance(0, 0);
        }
        for (int i = 1; i <= 12; i++) {
            DUE.same("not cut off", x.about(0, 3), RollbackPair.NONE);
            x.advance(0, 0);
            DUE.same("stalls", x.about(0, 2), i);
        }
        DUE.same("cut off at", x.about(0, 3), 2);
        DUE.same("all confirmed", x.about(0, 1), 5);
        x.advance(0, 0);
        DUE.same("and so on", x.about(0, 1), 6);
        DUE.same("still at", x.about(0, 3), 2);
    }

    private static void testRowAndAck() {
        RollbackPair x = new RollbackPair(1, 8, 0);
        x.advance(0, 0);
        x.advance(0, 0);
        DUE.same("row to 1", x.about(1, 4), 2);
        DUE.same("row to 0", x.about(0, 4), 0);
        x.deliver(1);
        DUE.same("one less", x.about(1, 4), 1);
        DUE.same("told DELAY at first", x.about(0, 5), 1);
        x.advance(1, 0);
        x.deliver(0);
        DUE.same("told", x.about(0, 5), 2);
        DUE.same("the other is told nothing new", x.about(1, 5), 1);
    }
}
