/** Promise 14: advice. */
public final class P14AdviceTest {
    private static final Due DUE = new Due();

    public static void main(String[] args) {
        testWrongArguments();
        testEachTakenPacket();
        testDroppedPacketsAdviseNothing();
        testDifferenceWraps();
        testManyPacketsAreRounded();
        DUE.end();
    }

    private static void testWrongArguments() {
        RollbackPair x = new RollbackPair(0, 8, 0);
        for (int i = 0; i < 3; i++) {
            x.advance(0, 0);
        }
        x.deliver(1);
        DUE.same("there is advice", x.advice(1), -0.25);
        int[] wrong = Play.NO_PEER;
        for (int one : wrong) {
            DUE.same("no such peer", x.advice(one), 0.0);
        }
        DUE.same("none to the sender", x.advice(0), 0.0);
    }

    private static void testEachTakenPacket() {
        RollbackPair x = new RollbackPair(4, 8, 0);
        float due = 0f;
        for (int i = 0; i < 10; i++) {
            x.advance(0, 0);
        }
        for (int i = 1; i <= 4; i++) {
            x.advance(1, 0);
            x.deliver(0);
            due = due * 0.75f + 0.25f * (float) (10 - i);
            DUE.same("advice " + i, x.advice(0), due);
        }
    }

    private static void testDroppedPacketsAdviseNothing() {
        RollbackPair x = new RollbackPair(0, 8, 0);
        x.advance(0, 0);
        x.advance(0, 0);
        x.alter(1, 1);
        x.deliver(1);
        x.deliver(1);
        float due = -0.25f * 0.75f + 0.25f * -2f;
        DUE.same("two taken", x.advice(1), due);
        DUE.same("the copy is dropped", x.deliver(1), -2);
        DUE.same("the same still", x.advice(1), due);
    }

    private static void testDifferenceWraps() {
        int[] frames = {Integer.MIN_VALUE, Integer.MAX_VALUE, -1, 16777217};
        for (int frame : frames) {
            RollbackPair x = new RollbackPair(0, 8, 0);
            x.advance(0, 0);
            x.advance(1, 0);
            Parts.forgeFirst(x, 0, new Parts(0, frame, 0, 0, 1, 0L));
            DUE.same("taken", x.deliver(0), 0);
            DUE.same("frame " + frame, x.advice(0), 0.25f * (float) (1 - frame));
        }
    }

    /** After some twelve packets the advice has more digits than a float: each step is rounded. */
    private static void testManyPacketsAreRounded() {
        RollbackPair x = Play.alone(1);
        float due = 0f;
        boolean otherSteps = false;
        boolean oneStep = false;
        for (int i = 0; i < 70; i++) {
            int frame = i * i * i % 1009;
            Parts sent = new Parts(i, i + 1, 0, 0, Math.min(16, i + 1), 0L);
            Parts wanted = new Parts(i, frame, 0, 0, Math.min(16, i + 1), 0L);
            x.spoil(0, 1, sent.frame ^ frame);
            x.spoil(0, 6, sent.check() ^ wanted.check());
            DUE.same("taken", x.deliver(0), 0);
            float stepped = due + 0.25f * (-frame - due);
            float atOnce = (float) (due * 0.75 + 0.25 * -frame);
            due = due * 0.75f + 0.25f * -frame;
            DUE.same("advice " + i, x.advice(0), due);
            otherSteps = otherSteps || due != stepped;
            oneStep = oneStep || due != atOnce;
            x.advance(1, 0);
        }
        DUE.same("in other steps it would be another one", otherSteps, true);
        DUE.same("and in one step too", oneStep, true);
    }
}
