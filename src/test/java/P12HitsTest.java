/** Promise 12: hits. */
public final class P12HitsTest {
    private static final Due DUE = new Due();

    public static void main(String[] args) {
        testWrongArguments();
        testHitsAreCounted();
        testHitsGoBackWithTheState();
        DUE.end();
    }

    private static void testWrongArguments() {
        RollbackPair x = new RollbackPair(0, 8, 0);
        int[] wrong = Play.NO_PEER;
        for (int one : wrong) {
            DUE.same("no such peer", x.hits(one), RollbackPair.NONE);
        }
        DUE.same("none at first", x.hits(0), 0);
    }

    private static void testHitsAreCounted() {
        RollbackPair x = Play.alone(0);
        int hits = 0;
        float[] places = {8f, 24f};
        float[] speeds = {0f, 0f};
        for (int i = 0; i < 80; i++) {
            x.advance(0, 2);
            speeds[0] = speeds[0] * 0.875f + 0.3f;
            speeds[1] = speeds[1] * 0.875f;
            for (int player = 0; player < 2; player++) {
                places[player] = places[player] + speeds[player];
                if (places[player] > 32f) {
                    places[player] = 64f - places[player];
                    speeds[player] = -speeds[player] * 0.5f;
                }
            }
            if (places[1] - places[0] < 1f) {
                float speed = speeds[0];
                speeds[0] = speeds[1];
                speeds[1] = speed;
                float middle = (places[0] + places[1]) * 0.5f;
                places[0] = middle - 0.5f;
                places[1] = middle + 0.5f;
                hits++;
            }
            DUE.same("hits after " + i, x.hits(0), hits);
        }
        DUE.same("there were some", hits > 3, true);
        DUE.same("none at the other", x.hits(1), 0);
    }

    private static void testHitsGoBackWithTheState() {
        RollbackPair x = new RollbackPair(0, 8, 0);
        for (int i = 0; i < 4; i++) {
            x.advance(1, 1);
            x.deliver(0);
            x.advance(0, 2);
            x.deliver(1);
        }
        x.advance(1, 2);
        for (int i = 0; i < 4; i++) {
            DUE.same("advance", x.advance(0, 2), 4 + i);
        }
        DUE.same("a hit by a wrong guess", x.hits(0), 1);
        x.deliver(0);
        DUE.same("there was none", x.hits(0), 0);
    }
}
