/** Promise 10: place. */
public final class P10PlaceTest {
    private static final Due DUE = new Due();

    public static void main(String[] args) {
        testWrongArguments();
        testStepByStep();
        testLeftAndRightWalls();
        testBounceApart();
        DUE.end();
    }

    private static void testWrongArguments() {
        RollbackPair x = new RollbackPair(0, 8, 0);
        int[] wrong = Play.NO_PEER;
        for (int one : wrong) {
            DUE.same("no such peer", x.place(one, 0), -100.0);
            DUE.same("no such player", x.place(1, one), -100.0);
        }
    }

    private static void testStepByStep() {
        RollbackPair x = new RollbackPair(0, 8, 0);
        float place = 8f;
        float speed = 0f;
        for (int i = 0; i < 6; i++) {
            x.advance(0, 2);
            speed = speed * 0.875f + 1f * 0.3f;
            place = place + speed;
            DUE.same("place " + i, x.place(0, 0), place);
            DUE.same("the other one stays", x.place(0, 1), 24.0);
            DUE.same("at the other peer too", x.place(1, 0), 8.0);
        }
    }

    private static void testLeftAndRightWalls() {
        for (int player = 0; player < 2; player++) {
            RollbackPair x = Play.alone(player);
            float speed = 0f;
            float place = player == 0 ? 8f : 24f;
            float push = player == 0 ? -1f : 1f;
            int bounced = 0;
            for (int i = 0; i < 30; i++) {
                x.advance(player, player == 0 ? 1 : 2);
                speed = speed * 0.875f + push * 0.3f;
                place = place + speed;
                if (place < 0f || place > 32f) {
                    place = place < 0f ? -place : 64f - place;
                    speed = -speed * 0.5f;
                    bounced++;
                }
                DUE.same("place " + i, x.place(player, player), place);
                DUE.same("speed " + i, x.speed(player, player), speed);
            }
            DUE.same("it came to the wall", bounced > 0, true);
        }
    }

    private static void testBounceApart() {
        RollbackPair x = Play.alone(0);
        float speed = 0f;
        float place = 8f;
        for (int i = 0; i < 30 && x.hits(0) == 0; i++) {
            x.advance(0, 2);
            speed = speed * 0.875f + 0.3f;
            place = place + speed;
        }
        float middle = (place + 24f) * 0.5f;
        DUE.same("there was room for none", 24f - place < 1f, true);
        DUE.same("place of 0", x.place(0, 0), middle - 0.5f);
        DUE.same("place of 1", x.place(0, 1), middle + 0.5f);
        DUE.same("speed of 0", x.speed(0, 0), 0.0);
        DUE.same("speed of 1", x.speed(0, 1), speed);
    }
}
