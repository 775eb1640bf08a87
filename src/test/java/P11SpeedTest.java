/** Promise 11: speed. */
public final class P11SpeedTest {
    private static final Due DUE = new Due();

    public static void main(String[] args) {
        testWrongArguments();
        testEachInput();
        testSpeedIsHeld();
        DUE.end();
    }

    private static void testWrongArguments() {
        RollbackPair x = new RollbackPair(0, 8, 0);
        x.advance(0, 2);
        x.advance(1, 2);
        int[] wrong = Play.NO_PEER;
        for (int one : wrong) {
            DUE.same("no such peer", x.speed(one, 0), 0.0);
            DUE.same("no such player", x.speed(1, one), 0.0);
        }
    }

    private static void testEachInput() {
        float[] pushes = {0f, -1f, 1f, 0f};
        for (int input = 0; input < 8; input++) {
            RollbackPair x = new RollbackPair(0, 8, 0);
            x.advance(1, 2);
            x.advance(1, input);
            float due = 0.3f * 0.875f + pushes[input & 3] * 0.3f;
            if (input >= 4) {
                due = due * 0.5f;
            }
            DUE.same("input " + input, x.speed(1, 1), due);
            DUE.same("the other one", x.speed(1, 0), 0.0);
        }
    }

    private static void testSpeedIsHeld() {
        RollbackPair x = new RollbackPair(0, 8, 0);
        x.advance(0, 1);
        float due = -0.3f;
        for (int i = 0; i < 7; i++) {
            DUE.same("speed " + i, x.speed(0, 0), due);
            x.advance(0, i % 2 == 0 ? 3 : 0);
            due = due * 0.875f;
        }
    }
}
