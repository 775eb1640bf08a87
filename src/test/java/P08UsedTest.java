/** Promise 8: used. */
public final class P08UsedTest {
    private static final Due DUE = new Due();

    public static void main(String[] args) {
        testWrongArguments();
        testFifteenBack();
        testLatestPlay();
        testDelayedInputs();
        DUE.end();
    }

    private static void testWrongArguments() {
        RollbackPair x = new RollbackPair(4, 8, 0);
        x.advance(0, 3);
        int[] wrong = Play.NO_PEER;
        for (int one : wrong) {
            DUE.same("no such peer", x.used(one, 0, 0), RollbackPair.NONE);
            DUE.same("no such player", x.used(0, one, 0), RollbackPair.NONE);
        }
        int[] frames = {-1, 1, 2, 15, 16, 17, Integer.MIN_VALUE, Integer.MAX_VALUE};
        for (int frame : frames) {
            DUE.same("not played " + frame, x.used(0, 0, frame), RollbackPair.NONE);
        }
        DUE.same("played", x.used(0, 0, 0), 0);
        DUE.same("not by the other", x.used(1, 0, 0), RollbackPair.NONE);
    }

    /** A new object for each frame to be at, since an object is good for 512 calls alone. */
    private static void testFifteenBack() {
        for (int at = 1; at <= 40; at++) {
            for (int peer = 0; peer < 2; peer++) {
                RollbackPair x = Play.alone(peer, 5);
                for (int i = 1; i < at; i++) {
                    x.advance(peer, i % 7);
                }
                isFifteenBack(x, peer, at);
            }
        }
    }

    private static void isFifteenBack(RollbackPair x, int peer, int at) {
        for (int frame = -3; frame < at + 20; frame++) {
            boolean there = frame >= 0 && frame < at && frame >= at - 15;
            int due = frame == 0 ? 5 : frame % 7;
            String where = "at " + at + " frame " + frame;
            DUE.same(where, x.used(peer, peer, frame), there ? due : RollbackPair.NONE);
            DUE.same(where + ", other's", x.used(peer, 1 - peer, frame), there ? 0 : -1);
            DUE.same(where + ", by the other", x.used(1 - peer, peer, frame), RollbackPair.NONE);
        }
        int[] far = {at - 65536, at + 65536, Integer.MIN_VALUE,
            Integer.MIN_VALUE + at, Integer.MAX_VALUE};
        for (int frame : far) {
            boolean there = frame >= 0 && frame < at && frame >= at - 15;
            DUE.same("far " + frame, x.used(peer, 1 - peer, frame), there ? 0 : -1);
        }
    }

    private static void testLatestPlay() {
        RollbackPair x = new RollbackPair(0, 8, 0);
        for (int i = 0; i < 4; i++) {
            x.advance(0, 1);
        }
        x.advance(1, 6);
        x.advance(1, 3);
        DUE.same("guess", x.used(0, 1, 2), 0);
        x.deliver(0);
        DUE.same("new guess", x.used(0, 1, 2), 6);
        x.deliver(0);
        int[] due = {6, 3, 3, 3};
        for (int i = 0; i < 4; i++) {
            DUE.same("frame " + i, x.used(0, 1, i), due[i]);
            DUE.same("own frame " + i, x.used(0, 0, i), 1);
        }
    }

    private static void testDelayedInputs() {
        RollbackPair x = new RollbackPair(3, 8, 0);
        for (int i = 0; i < 8; i++) {
            x.advance(0, i);
            DUE.same("frame " + i, x.used(0, 0, i), Math.max(0, i - 3));
        }
    }
}
