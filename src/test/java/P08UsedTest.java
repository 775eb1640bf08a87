/** Promise 8: used. */
public final class P08UsedTest {
    private static final Due DUE = new Due();

    public static void main(String[] args) {
        testWrongArguments();
        testFifteenBack();
        testLatestPlay();
        testDelayedInputs();
        DUE.end();
    }

    private static void testWrongArguments() {
        RollbackPair x = new RollbackPair(4, 8, 0);
        x.advance(0, 3);
        int[] wrong = {-1, 2, Integer.MIN_VALUE, Integer.MAX_VALUE};
        for (int one : wrong) {
            DUE.same("no such peer", x.used(one, 0, 0), RollbackPair.NONE);
            DUE.same("no such player", x.used(0, one, 0), RollbackPair.NONE);
        }
        int[] frames = {-1, 1, 2, 15, 16, 17, Integer.MIN_VALUE, Integer.MAX_VALUE};
        for (int frame : frames) {
            DUE.same("not played " + frame, x.used(0, 0, frame), RollbackPair.NONE);
        }
        DUE.same("played", x.used(0, 0, 0), 0);
        DUE.same("not by the other", x.used(1, 0, 0), RollbackPair.NONE);
    }

    private static void testFifteenBack() {
        RollbackPair x = new RollbackPair(0, 1, 0);
        for (int i = 0; i < 13; i++) {
            x.advance(0, 5);
        }
        for (int at = 1; at < 60; at++) {
            for (int frame = -3; frame < at + 20; frame++) {
                boolean there = frame >= 0 && frame < at && frame >= at - 15;
                int due = frame == 0 ? 5 : frame % 8;
                DUE.same("at " + at + " frame " + frame, x.used(0, 0, frame), there ? due : -1);
                DUE.same("at " + at + " other's", x.used(0, 1, frame), there ? 0 : -1);
            }
            x.advance(0, at % 8);
        }
    }

    private static void testLatestPlay() {
        RollbackPair x = new RollbackPair(0, 8, 0);
        for (int i = 0; i < 4; i++) {
            x.advance(0, 1);
        }
        x.advance(1, 6);
        x.advance(1, 3);
        DUE.same("guess", x.used(0, 1, 2), 0);
        x.deliver(0);
        DUE.same("new guess", x.used(0, 1, 2), 6);
        x.deliver(0);
        int[] due = {6, 3, 3, 3};
        for (int i = 0; i < 4; i++) {
            DUE.same("frame " + i, x.used(0, 1, i), due[i]);
            DUE.same("own frame " + i, x.used(0, 0, i), 1);
        }
    }

    private static void testDelayedInputs() {
        RollbackPair x = new RollbackPair(3, 8, 0);
        for (int i = 0; i < 8; i++) {
            x.advance(0, i);
            DUE.same("frame " + i, x.used(0, 0, i), Math.max(0, i - 3));
        }
    }
}
